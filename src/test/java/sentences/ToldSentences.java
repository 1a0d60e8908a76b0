/** Promises 9 to 15: what is so now. */
final class ToldSentences extends PromiseTest {
    private static final String WORK =
        "sit 0 0;sit 2 0;sit 1 2;sit 2 1;tell 1 0;tell 0 1;tell 0 2;hold 16;hold 17;";
    private static final String FULL = "back 99 9;".repeat(7) + "council 9 9;".repeat(12);

    static void tell() {
        promise9();
        promise9Now();
        promise9Knows();
        promise9Wrong();
        promise10();
        promise10Wrong();
        promise11();
        promise12();
        promise13();
        promise14();
        promise15();
    }

    private static ThroneBacks worked() {
        ThroneBacks x = courtOf(COURT);
        due("steps done", work(x, WORK), 6);
        return x;
    }

    private static void promise9() {
        sentence(9, "0 BACKS, 1 COUNCILS, 2 W", () -> {
            ThroneBacks x = courtOf("back 1 1;back 2 2;council 3 3;king 4;");
            due("told", x.told(0) * 100 + x.told(1) * 10 + x.told(2), 214);
            court(x, FULL);
            due("full", x.told(0) * 10000 + x.told(1) * 100 + x.told(2), 71220);
            court(x, "");
            due("empty", x.told(0) * 10000 + x.told(1) * 100 + x.told(2), 20);
        });
        sentence(9, "3 the DAY", () -> {
            ThroneBacks x = courtOf(COURT);
            due("at first", x.told(3), 0);
            work(x, "day;hold 1;day;");
            due("then", x.told(3), 2);
        });
        sentence(9, "4 by how much the king holds himself up", () -> {
            ThroneBacks x = courtOf(COURT);
            due("at first", x.told(4), 0);
            work(x, "hold 16;day;");
            due("then", x.told(4), 16);
        });
        sentence(9, "5 BACKS that fell (bits)", () -> {
            ThroneBacks x = worked();
            due("one", x.told(5), 4);
            work(x, "hold 0;sit 0 2;");
            due("two", x.told(5), 5);
            work(x, "rest 2;");
            due("one stands again", x.told(5), 1);
            ThroneBacks y = courtOf("back 1 0;".repeat(7) + "council 9 9;");
            work(y, "sit 0 0;sit 1 0;sit 2 0;sit 3 0;sit 4 0;sit 5 0;sit 6 0;");
            due("all", y.told(5), 127);
        });
    }

    private static void promise9Now() {
        sentence(9, "6 how TIRED all are together", () -> {
            ThroneBacks x = worked();
            due("who fell, too", x.told(6), 21 + 21 + 50);
            work(x, "day;");
            due("a day behind", x.told(6), 11 + 16 + 37);
        });
        sentence(9, "7 how often any COUNCIL was BORNE", () -> {
            ThroneBacks x = worked();
            due("three times", x.told(7), 3);
            work(x, "sit 0 0;sit 0 0;");
            due("twice more", x.told(7), 5);
        });
        sentence(9, "9 lines of the BOOK", () -> {
            ThroneBacks x = worked();
            due("none", x.told(9), 0);
            book(x, "1 1;0 3;2 5;");
            due("three", x.told(9), 3);
            book(x, "");
            due("none again", x.told(9), 0);
        });
        sentence(9, "10 STEPS REFUSED by the latest WORK (0 ahead of any, behind undo(), restore())", () -> {
            ThroneBacks x = courtOf(COURT);
            due("ahead of any", x.told(10), 0);
            work(x, "hold 0;hold 0;day;");
            due("two", x.told(10), 2);
            x.image();
            due("behind an image", x.told(10), 2);
            work(x, "day;");
            due("none by the latest", x.told(10), 0);
            work(x, "hold 0;");
            due("behind undo", x.undo() * 10 + x.told(10), 20);
            work(x, "hold 0;dey;");
            work(x, "hold 0;");
            work(x, "dey;");
            due("a faulty one is none", x.told(10), 1);
            due("behind restore", x.restore() * 10 + x.told(10), 0);
            work(x, "hold 0;");
            due("no image, nothing is done", x.restore() * 10 + x.told(10), -9);
        });
    }

    private static void promise9Knows() {
        sentence(9, "8 COUNCILS that any BACK KNOWS (bits)", () -> {
            ThroneBacks x = courtOf("back 99 9;back 21 9;council 4 1;council 9 9;council 4 2;");
            due("none", x.told(8), 0);
            work(x, "sit 1 0;");
            due("one", x.told(8), 1);
            work(x, "sit 1 1;sit 0 2;");
            due("who lies knows, too", x.told(5) * 10 + x.told(8), 25);
        });
        sentence(9, "11 COUNCILS that all BACKS KNOW that did not fall (bits; all: there are none such)", () -> {
            ThroneBacks x = courtOf("back 99 9;back 99 9;back 1 9;council 4 1;council 4 2;council 4 3;");
            work(x, "sit 0 0;sit 1 1;tell 0 1;");
            due("one does not know", x.told(11), 0);
            work(x, "sit 2 2;");
            due("that one fell", x.told(5) * 10 + x.told(11), 41);
            ThroneBacks y = courtOf("back 1 9;back 1 9;council 9 9;council 9 1;");
            work(y, "sit 0 0;");
            due("one stands", y.told(11), 0);
            work(y, "sit 1 0;");
            due("none stands", y.told(11), 3);
            court(y, "council 1 1;".repeat(12));
            due("there are none, of twelve", y.told(11), 4095);
            due("there are none, of none", new ThroneBacks().told(11), 0);
        });
    }

    private static void promise9Wrong() {
        sentence(9, "IllegalArgumentException: another what (so below).", () -> {
            ThroneBacks x = courtOf(COURT);
            int[] kinds = {12, 8, 5, 2, 2, 2, 2, 3, 2, 2, 2, 2, 2, 4, 3};
            for (int i = 0; i < kinds.length; i++) {
                int call = i;
                int all = kinds[i];
                for (int what : new int[] {-1, all, all + 1, Integer.MIN_VALUE, Integer.MAX_VALUE}) {
                    noArgument("call " + i + ", what " + what, () -> asked(x, call, what));
                }
                for (int what = 0; what < all; what++) {
                    int right = what;
                    due("call " + i + ", what " + what, Checks.outcome(() -> asked(x, call, right)) < -1000 ? 1 : 0, 0);
                }
            }
            due("so many are refused", x.status(1), kinds.length * 5);
        });
    }

    private static long asked(ThroneBacks x, int call, int what) {
        switch (call) {
            case 0: return x.told(what);
            case 1: return x.back(0, what);
            case 2: return x.council(0, what);
            case 3: return x.ahead(0, what);
            case 4: return x.fits(what);
            case 5: return x.look(what);
            case 6: return x.quorum(1, what);
            case 7: return x.kneel(0, 0, what);
            case 8: return x.weariest(what);
            case 9: return x.heaviest(0, what);
            case 10: return x.sure(0, what);
            case 11: return x.rumour(0, what);
            case 12: return x.lied(0, what);
            case 13: return x.reign(1, 0, 1, what);
            default: return x.span(1, 1, 0, 1, what, 0);
        }
    }

    private static void promise10() {
        sentence(10, "Of a BACK: 0 S, 1 C, 2 how TIRED, 3 1 it fell, 0 not", () -> {
            ThroneBacks x = worked();
            int[][] want = {{30, 5, 21, 0}, {60, 8, 50, 0}, {10, 0, 21, 1}};
            for (int back = 0; back < 3; back++) {
                for (int what = 0; what < 4; what++) {
                    due("back " + back + " " + what, x.back(back, what), want[back][what]);
                }
            }
            work(x, "rest 2;");
            due("it stands", x.back(2, 3), 0);
        });
        sentence(10, "4 COUNCILS it KNOWS (bits)", () -> {
            ThroneBacks x = worked();
            due("of itself and by hearing", x.back(0, 4) * 10 + x.back(1, 4), 55);
            due("none", x.back(2, 4), 0);
        });
        sentence(10, "5 how often it bore any, 6 COUNCILS it bore (bits)", () -> {
            ThroneBacks x = worked();
            due("one of them", x.back(1, 5) * 10 + x.back(1, 6), 14);
            work(x, "hold 0;sit 1 1;sit 2 1;");
            due("and another; the second is refused", x.back(1, 5) * 10 + x.back(1, 6), 26);
            due("who fell bore it", x.back(2, 5) * 10 + x.back(2, 6), 11);
            work(x, "rest 1;sit 1 1;");
            due("the same once more", x.back(1, 5) * 10 + x.back(1, 6), 36);
        });
        sentence(10, "7 S less how TIRED it is (below 0, too)", () -> {
            ThroneBacks x = worked();
            due("above", x.back(0, 7), 9);
            due("below", x.back(2, 7), -11);
            ThroneBacks y = courtOf("back 21 5;council 4 5;king 16;");
            work(y, "sit 0 0;");
            due("0", y.back(0, 7), 0);
        });
    }

    private static void promise10Wrong() {
        sentence(10, "NoSuchElementException: no such BACK, COUNCIL (so below, ahead of others).", () -> {
            ThroneBacks x = courtOf(COURT);
            int refused = 0;
            for (int wrong : new int[] {-1, 3, 7, 12, Integer.MIN_VALUE, Integer.MAX_VALUE}) {
                Checks.Call[] calls = {() -> x.back(wrong, 0), () -> x.back(wrong, 8), () -> x.council(wrong, 0),
                    () -> x.council(wrong, 5), () -> x.hearing(wrong, 0), () -> x.hearing(0, wrong), () -> x.load(wrong, 0),
                    () -> x.load(0, wrong), () -> x.burden(wrong, 0), () -> x.burden(0, wrong), () -> x.could(wrong),
                    () -> x.gives(wrong, 7), () -> x.gives(wrong, 8), () -> x.word(wrong), () -> x.balm(wrong, 7, 1),
                    () -> x.balm(wrong, 8, 1), () -> x.balm(wrong, 7, -1), () -> x.heaviest(wrong, 0),
                    () -> x.heaviest(wrong, 2), () -> x.listeners(wrong), () -> x.ready(wrong, 0),
                    () -> x.ready(0, wrong), () -> x.sure(wrong, 0), () -> x.sure(wrong, 2), () -> x.bearers(wrong),
                    () -> x.rumour(wrong, 0), () -> x.rumour(wrong, 2)};
                for (int i = 0; i < calls.length; i++) {
                    noElement("call " + i + " by " + wrong, calls[i]);
                }
                refused += calls.length;
            }
            due("so many are refused", x.status(0), refused);
            due("by no other reason", x.status(1), 0);
            due("the last back is there", x.back(2, 0) * 10 + x.council(2, 0), 108);
        });
    }

    private static void promise11() {
        sentence(11, "Of a COUNCIL: 0 H, 1 L, 2 how often it was BORNE, 3 BACKS that KNOW it (bits), 4 BACKS that bore it (bits).", () -> {
            ThroneBacks x = worked();
            int[][] want = {{4, 5, 2, 3, 5}, {2, 1, 0, 0, 0}, {8, 9, 1, 3, 2}};
            for (int council = 0; council < 3; council++) {
                for (int what = 0; what < 5; what++) {
                    due("council " + council + " " + what, x.council(council, what), want[council][what]);
                }
            }
            ThroneBacks y = courtOf(FULL + "king 1;");
            work(y, "sit 6 11;sit 6 11;tell 6 0;");
            due("the last: borne", y.council(11, 2), 2);
            due("the last: known", y.council(11, 3), 65);
            due("the last: bore", y.council(11, 4), 64);
        });
    }

    private static void promise12() {
        sentence(12, "By how many HEARINGS a BACK KNOWS a COUNCIL (0: of itself)", () -> {
            ThroneBacks x = courtOf("back 99 9;".repeat(7) + "council 1 0;".repeat(11) + "council 1 9;king 4;");
            work(x, "sit 0 11;tell 0 1;tell 1 2;tell 2 3;tell 3 4;tell 4 5;tell 5 6;");
            for (int back = 0; back < 7; back++) {
                due("hearing " + back, x.hearing(back, 11), back);
            }
        });
        sentence(12, "NONE: it does not.", () -> {
            ThroneBacks x = worked();
            due("who fell by it", x.hearing(2, 0), -1);
            due("who did not bear it", x.hearing(0, 1), -1);
            work(x, "sit 0 1;");
            due("who felt nothing", x.hearing(0, 1), -1);
        });
    }

    private static void promise13() {
        sentence(13, "LOAD of a COUNCIL on a BACK now.", () -> {
            ThroneBacks x = courtOf(COURT);
            due("at first", x.load(1, 0) * 10000 + x.load(1, 1) * 100 + x.load(1, 2), 211725);
            work(x, "sit 0 0;hold 2;day;day;");
            law(x, "weight+held*100%7+lie+hours+care+tired+knows*2+day*3+back");
            due("by all that the law may name", x.load(0, 1), 16 + 4 + 1 + 2 + 5 + 1 + 2 + 6);
            due("on another back", x.load(2, 0), 16 + 4 + 5 + 4 + 6 + 2);
            law(x, "999");
            due("60 at most", x.load(0, 1), 60);
            law(x, "lie-weight");
            due("0 at least", x.load(0, 2), 0);
            law(x, "3");
            work(x, "sit 2 2;sit 2 2;sit 2 2;");
            due("on one who lies", x.load(2, 0) * 10 + x.back(2, 3), 31);
        });
    }

    private static void promise14() {
        sentence(14, "What a BACK would bear in a COUNCIL: BURDEN, LOAD times HOURS, by 4 (cut).", () -> {
            ThroneBacks x = courtOf("back 99 9;" + "council 1 0;council 2 0;council 3 0;council 4 0;council 9 0;");
            int[] loads = {0, 1, 2, 3, 4, 5, 59, 60};
            for (int load : loads) {
                law(x, "" + load);
                int[] hours = {1, 2, 3, 4, 9};
                for (int council = 0; council < 5; council++) {
                    due(load + " for " + hours[council], x.burden(0, council), load * hours[council] / 4);
                }
            }
            law(x, "999");
            due("the most of all", x.burden(0, 4), 135);
        });
        sentence(14, "BURDEN of a COUNCIL on a BACK now.", () -> {
            ThroneBacks x = courtOf(COURT);
            due("at first", x.burden(1, 0) * 10000 + x.burden(1, 1) * 100 + x.burden(1, 2), 210850);
            work(x, "sit 1 1;hold 16;day;day;");
            due("held up", x.burden(0, 2), 18);
            law(x, "tired+day*4+back");
            due("now", x.burden(1, 0) * 100 + x.burden(0, 0), 908);
            work(x, "sit 2 2;");
            due("on one who lies", x.burden(2, 0) * 10 + x.back(2, 3), 301);
        });
    }

    private static long wouldWith(ThroneBacks x, int place, int value) {
        int[] a = {20, 5, 3, 1, 0, 40, 2, 0, 0};
        a[place] = value;
        return Checks.outcome(() -> x.would(a[0], a[1], a[2], a[3], a[4], a[5], a[6], a[7], a[8]));
    }

    private static void promise15() {
        sentence(15, "LOAD by the LAW for such weight (1 to 40), held (0 to 40), lie (0 to 9), hours (1 to 9), care (0 to 9), "
            + "tired (0 to 999), knows (0 to 12), day (0 to 400), back (0 to 6).", () -> {
            String[] names = {"weight", "held", "lie", "hours", "care", "tired", "knows", "day", "back"};
            int[] least = {1, 0, 0, 1, 0, 0, 0, 0, 0};
            int[] most = {40, 40, 9, 9, 9, 999, 12, 400, 6};
            ThroneBacks x = new ThroneBacks();
            for (int place = 0; place < 9; place++) {
                law(x, names[place] + "%50");
                due("least " + names[place], wouldWith(x, place, least[place]), least[place]);
                due("most " + names[place], wouldWith(x, place, most[place]), most[place] % 50);
                due("below " + names[place], wouldWith(x, place, least[place] - 1), Checks.NO_ARGUMENT);
                due("beyond " + names[place], wouldWith(x, place, most[place] + 1), Checks.NO_ARGUMENT);
                due("far below " + names[place], wouldWith(x, place, Integer.MIN_VALUE), Checks.NO_ARGUMENT);
                due("far beyond " + names[place], wouldWith(x, place, Integer.MAX_VALUE), Checks.NO_ARGUMENT);
            }
            due("refused", x.status(1), 36);
        });
        sentence(15, "LOAD by the LAW for such weight", () -> {
            ThroneBacks x = courtOf(COURT);
            work(x, "sit 0 0;hold 3;day;");
            String ahead = allOf(x);
            due("whatever the court", x.would(40, 40, 9, 9, 9, 999, 12, 400, 6), 9);
            due("held more than the weight", x.would(1, 40, 9, 1, 0, 0, 0, 0, 0), 0);
            same("nothing stays changed", allOf(x), ahead);
        });
    }
}
