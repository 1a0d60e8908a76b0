/** Promises 9 to 15: what is so now. */
public final class ToldPromisesTest extends PromiseTest {
    private static final String WORK =
        "sit 0 0;sit 2 0;sit 1 2;sit 2 1;tell 1 0;tell 0 1;tell 0 2;hold 16;hold 17;";

    public static void main(String[] args) {
        promise9();
        promise10();
        promise11();
        promise12();
        promise13And14();
        promise15();
        Checks.finish();
    }

    private static void told(ThroneBacks x, int... want) {
        for (int what = 0; what < want.length; what++) {
            due("told " + what, x.told(what), want[what]);
        }
    }

    private static void promise9() {
        ThroneBacks x = courtOf(COURT);
        told(x, 3, 3, 16, 0, 0, 0, 0, 0, 0, 0, 0, 0);
        due("work", work(x, WORK), 6);
        book(x, "1 1;0 3;");
        told(x, 3, 3, 16, 0, 16, 4, 92, 3, 5, 2, 3, 5);
        work(x, "day;rest 2;");
        told(x, 3, 3, 16, 1, 16, 0, 56, 3, 5, 2, 0, 0);
        noArgument("told 12", () -> x.told(12));
        noArgument("told -1", () -> x.told(-1));
        ThroneBacks y = courtOf("back 1 9;back 1 9;council 9 9;council 9 1;");
        due("told 11: none knows", y.told(11), 0);
        work(y, "sit 0 0;");
        due("told 11: one stands", y.told(11), 0);
        work(y, "sit 1 0;");
        due("told 11: none stands", y.told(11), 3);
        due("told 8: none knows", y.told(8), 0);
        ThroneBacks z = courtOf("back 99 9;back 99 9;council 4 1;council 4 2;king 1;");
        work(z, "sit 0 0;sit 1 1;");
        due("told 8: any knows", z.told(8), 3);
        due("told 11: all know", z.told(11), 0);
        work(z, "tell 0 1;");
        due("told 11: all know one", z.told(11), 1);
        ThroneBacks w = courtOf("back 99 9;back 21 9;council 4 1;council 9 9;");
        work(w, "sit 1 0;");
        due("told 8: it stands", w.told(8), 1);
        work(w, "sit 1 1;");
        due("told 8: who lies knows, too", w.told(8), 1);
        due("told 11: who lies does not count", w.told(11), 0);
    }

    private static void promise10() {
        ThroneBacks x = courtOf(COURT);
        work(x, WORK);
        int[][] want = {{30, 5, 21, 0, 5, 1, 1, 9}, {60, 8, 50, 0, 5, 1, 4, 10}, {10, 0, 21, 1, 0, 1, 1, -11}};
        for (int back = 0; back < 3; back++) {
            for (int what = 0; what < 8; what++) {
                due("back " + back + " " + what, x.back(back, what), want[back][what]);
            }
        }
        work(x, "hold 0;sit 1 1;");
        due("back: bore twice", x.back(1, 5), 2);
        due("back: bore both", x.back(1, 6), 6);
        noArgument("back, what 8", () -> x.back(0, 8));
        noArgument("back, what -1", () -> x.back(2, -1));
        noElement("no back 3", () -> x.back(3, 0));
        noElement("no back -1", () -> x.back(-1, 0));
        noElement("no back ahead of what", () -> x.back(3, 8));
    }

    private static void promise11() {
        ThroneBacks x = courtOf(COURT);
        work(x, WORK);
        int[][] want = {{4, 5, 2, 3, 5}, {2, 1, 0, 0, 0}, {8, 9, 1, 3, 2}};
        for (int council = 0; council < 3; council++) {
            for (int what = 0; what < 5; what++) {
                due("council " + council + " " + what, x.council(council, what), want[council][what]);
            }
        }
        noArgument("council, what 5", () -> x.council(0, 5));
        noArgument("council, what -1", () -> x.council(0, -1));
        noElement("no council 3", () -> x.council(3, 0));
        noElement("no council -1", () -> x.council(-1, 0));
        noElement("no council ahead of what", () -> x.council(3, 5));
    }

    private static void promise12() {
        ThroneBacks x = courtOf("back 99 9;".repeat(7) + "council 1 0;".repeat(11) + "council 1 9;king 4;");
        work(x, "sit 0 11;tell 0 1;tell 1 2;tell 2 3;tell 3 4;tell 4 5;tell 5 6;");
        for (int back = 0; back < 7; back++) {
            due("hearing " + back, x.hearing(back, 11), back);
        }
        due("hearing: it does not know", x.hearing(0, 10), -1);
        noElement("hearing: no back", () -> x.hearing(7, 0));
        noElement("hearing: no back below 0", () -> x.hearing(-1, 0));
        noElement("hearing: no council", () -> x.hearing(0, 12));
        noElement("hearing: no council below 0", () -> x.hearing(0, -1));
    }

    private static void promise13And14() {
        ThroneBacks x = courtOf(COURT);
        int[] loads = {21, 17, 25};
        int[] burdens = {21, 8, 50};
        for (int council = 0; council < 3; council++) {
            due("load " + council, x.load(1, council), loads[council]);
            due("burden " + council, x.burden(1, council), burdens[council]);
        }
        work(x, "sit 0 0;hold 2;day;day;");
        law(x, "weight+held*100%7+lie+hours+care+tired+knows*2+day*3+back");
        due("load by all that the law may name", x.load(0, 1), 16 + 4 + 1 + 2 + 5 + 1 + 2 + 6);
        due("load on another back", x.load(2, 0), 16 + 4 + 5 + 4 + 6 + 2);
        due("burden on another back", x.burden(2, 2), (16 + 4 + 9 + 8 + 6 + 2) * 8 / 4);
        law(x, "999");
        due("load: 60 at most", x.load(0, 1), 60);
        due("burden: of 60 at most", x.burden(0, 1), 30);
        law(x, "lie-weight");
        due("load: 0 at least", x.load(0, 2), 0);
        due("burden: 0 at least", x.burden(0, 2), 0);
        law(x, "3");
        due("burden: cut", x.burden(0, 1), 1);
        work(x, "sit 2 2;sit 2 2;sit 2 2;");
        due("load: on one who lies", x.load(2, 0), 3);
        noElement("load: no back", () -> x.load(3, 0));
        noElement("load: no back below 0", () -> x.load(-1, 0));
        noElement("load: no council", () -> x.load(0, 3));
        noElement("load: no council below 0", () -> x.load(0, -1));
        noElement("burden: no back", () -> x.burden(3, 0));
        noElement("burden: no back below 0", () -> x.burden(-1, 0));
        noElement("burden: no council", () -> x.burden(0, 3));
        noElement("burden: no council below 0", () -> x.burden(0, -1));
    }

    private static long wouldWith(ThroneBacks x, int place, int value) {
        int[] a = {20, 5, 3, 1, 0, 40, 2, 0, 0};
        a[place] = value;
        return Checks.outcome(() -> x.would(a[0], a[1], a[2], a[3], a[4], a[5], a[6], a[7], a[8]));
    }

    private static void promise15() {
        ThroneBacks x = new ThroneBacks();
        int[] least = {1, 0, 0, 1, 0, 0, 0, 0, 0};
        int[] most = {40, 40, 9, 9, 9, 999, 12, 400, 6};
        int[] byLeast = {0, 23, 15, 18, 18, 18, 18, 18, 18};
        int[] byMost = {38, 0, 24, 18, 18, 18, 18, 18, 18};
        for (int place = 0; place < 9; place++) {
            due("would: least of " + place, wouldWith(x, place, least[place]), byLeast[place]);
            due("would: most of " + place, wouldWith(x, place, most[place]), byMost[place]);
            due("would: below " + place, wouldWith(x, place, least[place] - 1), Checks.NO_ARGUMENT);
            due("would: beyond " + place, wouldWith(x, place, most[place] + 1), Checks.NO_ARGUMENT);
        }
        due("would: refused", x.status(1), 18);
        law(x, "tired / 10 + knows * day + back * hours + care");
        due("would: by the law", x.would(1, 0, 0, 2, 3, 109, 4, 5, 6), 10 + 20 + 12 + 3);
        law(x, "tired");
        due("would: 60 at most", x.would(1, 0, 0, 2, 3, 61, 4, 5, 6), 60);
        due("would: 59", x.would(1, 0, 0, 2, 3, 59, 4, 5, 6), 59);
    }
}
