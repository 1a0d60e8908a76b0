/**
 * Promises 36 and 37. By SEED 1 the first draws are 16838, 5758, 10113, 17515, 31051, 5627, 23010, 7419, 16212, 4086,
 * so with 5 backs and 2 councils what is drawn can be told by hand.
 */
public final class ReignPromisesTest extends PromiseTest {
    private static final String FIVE = "back 99 9;back 99 9;back 99 9;back 99 9;back 99 9;council 4 9;council 8 0;";

    public static void main(String[] args) {
        promise36();
        promise36Tellings();
        promise36Falls();
        promise36Days();
        promise36Wrong();
        promise37();
        Checks.finish();
    }

    private static void reign(ThroneBacks x, int seed, int q, int days, int... want) {
        for (int what = 0; what < want.length; what++) {
            due("reign " + seed + " " + q + " " + days + " " + what, x.reign(seed, q, days, what), want[what]);
        }
    }

    private static void promise36() {
        ThroneBacks x = courtOf(FIVE);
        // Sits 3 0, then 0 1: 29 and 40, less 14 each.
        reign(x, 1, 0, 1, 2, 0, 41, 1);
        // 1 of 16 is not below 1.
        reign(x, 1, 1, 1, 2, 0, 41, 1);
        // Sits 3 0, tells 0 1, sits 2 0, tells 2 1 or not.
        reign(x, 1, 2, 1, 2, 0, 30, 1);
        reign(x, 1, 16, 1, 2, 0, 30, 1);
        due("reign: nothing stays changed", x.told(6) + x.told(7) + x.told(3), 0);
        work(x, "sit 0 1;");
        reign(x, 1, 16, 1, 2, 0, 56, 1);
    }

    private static void promise36Tellings() {
        ThroneBacks x = courtOf(FIVE);
        work(x, "sit 0 0;again 9[day;];");
        law(x, "4*knows");
        // Sits 3 0: 0 then 3 knows it; tells 0 1; sits 2 0: 0.
        reign(x, 1, 16, 1, 2, 0, 0, 1);
        ThroneBacks y = courtOf("back 1 9;back 99 9;back 99 9;back 99 9;back 99 9;council 4 9;council 8 0;king 1;");
        work(y, "sit 1 0;tell 1 2;day;day;");
        law(y, "40*knows");
        // Sits 3 0 (0 borne, knows then), tells 0 1 (nothing), sits 2 0 at 40: 26 is left of it.
        reign(y, 1, 16, 1, 2, 0, 26, 1);
        ThroneBacks z = courtOf("back 99 1;back 99 0;council 4 9;");
        law(z, "20*knows");
        // By SEED 2 908, 22817, 10239, 12914, 25837, 27095, ..: sits 0 0, tells 0 1 (15 is below 16), sits 1 0 by 20.
        reign(z, 2, 16, 1, 2, 0, 15, 1);
        // 15 is not below 15: sits 0 0, sits 0 0 by 20.
        reign(z, 2, 15, 1, 2, 0, 14, 1);
    }

    private static void promise36Falls() {
        ThroneBacks x = courtOf("back 28 9;back 28 9;back 28 9;back 28 9;back 28 9;council 4 9;council 8 0;");
        reign(x, 1, 0, 1, 2, 9, 41, 0);
        reign(x, 1, 16, 1, 2, 12, 30, 0);
        ThroneBacks y = courtOf("back 1 0;council 4 0;");
        // Falls by 20, rests to 10, 5 by the day; then falls by 25, rests to 12, 7.
        reign(y, 123, 0, 1, 1, 0, 5, 0);
        reign(y, 123, 16, 2, 2, 0, 7, 0);
        work(y, "sit 0 0;");
        // Lies at 20: rests to 10, falls by 30, 25.
        reign(y, 123, 5, 1, 1, 1, 25, 0);
        due("reign: borne in it alone", y.told(7), 1);
        work(y, "again 5[day;];");
        due("it lies, not tired", y.told(5) * 10 + y.told(6), 10);
        reign(y, 9, 3, 48, 0, 1, 0, 0);
    }

    private static void promise36Days() {
        ThroneBacks x = courtOf("back 99 0;council 4 0;king 40;");
        work(x, "again 40[day;day;day;day;];");
        work(x, "again 40[day;day;day;day;];");
        law(x, "day-300");
        // On day 320 20 and 20, less 5; then 21 and 21, less 5.
        reign(x, 5, 0, 1, 2, 0, 35, 0);
        reign(x, 5, 0, 2, 4, 0, 72, 0);
        work(x, "again 40[day;day;day;];");
        due("day 400", x.told(3), 400);
        law(x, "(day-400)*6");
        // Days go on beyond 400: 0; 6 and 6, less 5; 12 and 12, less 5.
        reign(x, 5, 0, 3, 6, 0, 26, 0);
        ThroneBacks y = courtOf("back 9 9;");
        reign(y, 1, 16, 48, 0, 0, 0, 0);
        court(y, "council 9 9;");
        reign(y, 1, 16, 48, 0, 0, 0, 0);
        due("reign: seeds below 0", courtOf(FIVE).reign(-1, 16, 48, 0) > 0 ? 1 : 0, 1);
    }

    private static void promise36Wrong() {
        ThroneBacks x = courtOf(FIVE);
        noArgument("reign: q 17", () -> x.reign(1, 17, 1, 0));
        noArgument("reign: q -1", () -> x.reign(1, -1, 1, 0));
        noArgument("reign: 0 days", () -> x.reign(1, 1, 0, 0));
        noArgument("reign: 49 days", () -> x.reign(1, 1, 49, 0));
        noArgument("reign, what 4", () -> x.reign(1, 1, 1, 4));
        noArgument("reign, what -1", () -> x.reign(1, 1, 1, -1));
    }

    private static void promise37() {
        ThroneBacks x = courtOf("back 28 9;back 40 9;back 28 0;council 4 9;council 8 0;council 9 4;");
        for (int many = 1; many <= 10; many++) {
            int fewest = 999;
            int most = 0;
            int lying = 0;
            for (int i = 0; i < many; i++) {
                fewest = Math.min(fewest, x.reign(77 + i, 3, 12, 0));
                most = Math.max(most, x.reign(77 + i, 3, 12, 0));
                lying += x.reign(77 + i, 3, 12, 1) >> 2 & 1;
            }
            due("span, fewest " + many, x.span(77, many, 3, 12, 0, 1), fewest);
            due("span, most " + many, x.span(77, many, 3, 12, 1, 0), most);
            due("span, lying " + many, x.span(77, many, 3, 12, 2, 2), lying);
        }
        due("span: fewest is not most", x.span(77, 10, 3, 12, 0, 0) < x.span(77, 10, 3, 12, 1, 0) ? 1 : 0, 1);
        int over = Integer.MAX_VALUE;
        int lying = (x.reign(over, 3, 12, 1) & 1) + (x.reign(Integer.MIN_VALUE, 3, 12, 1) & 1);
        due("span: seeds wrap", x.span(over, 2, 3, 12, 2, 0), lying);
        due("span: no tellings, one day", x.span(77, 1, 0, 1, 0, 0), x.reign(77, 0, 1, 0));
        due("span: 16 of 16, 48 days", x.span(77, 1, 16, 48, 1, 0), x.reign(77, 16, 48, 0));
        int[][] wrong = {{1, 0, 1, 1, 0, 0}, {1, 11, 1, 1, 0, 0}, {1, 1, -1, 1, 0, 0}, {1, 1, 17, 1, 0, 0},
            {1, 1, 1, 0, 0, 0}, {1, 1, 1, 49, 0, 0}, {1, 1, 1, 1, -1, 0}, {1, 1, 1, 1, 3, 0}, {1, 1, 1, 1, 0, 3},
            {1, 1, 1, 1, 1, -1}, {1, 1, 1, 1, 2, 3}};
        for (int[] a : wrong) {
            noArgument("span " + java.util.Arrays.toString(a), () -> x.span(a[0], a[1], a[2], a[3], a[4], a[5]));
        }
        noArgument("span: no backs", () -> new ThroneBacks().span(1, 1, 1, 1, 0, 0));
    }
}
