/** Promises 24 to 27: votes, lies by chance, two who sit or kneel, and balm. */
final class ShareSentences extends PromiseTest {
    static void tell() {
        promise24();
        promise25();
        promise25Terms();
        kneel();
        promise26();
        balm();
        promise27();
    }

    private static void promise24() {
        sentence(24, "QUORUM q: sets of BACKS that did not fall that have STRENGTH q or more together: how many", () -> {
            ThroneBacks x = courtOf(COURT);
            int[][] want = {{1, 7}, {10, 7}, {11, 6}, {30, 6}, {31, 5}, {40, 5}, {41, 4}, {60, 4}, {61, 3}, {70, 3}, {71, 2},
                {90, 2}, {91, 1}, {100, 1}, {101, 0}};
            for (int[] row : want) {
                due("quorum " + row[0], x.quorum(row[0], 0), row[1]);
            }
            work(x, "sit 1 2;sit 1 2;");
            due("without who lies", x.quorum(10, 0), 3);
            due("without who lies, 41", x.quorum(41, 0), 0);
            work(x, "rest 1;");
            due("stands again, tired", x.quorum(41, 0), 4);
        });
        sentence(24, "how many of these have no BACK they could do without", () -> {
            ThroneBacks x = courtOf(COURT);
            int[][] want = {{1, 3}, {10, 3}, {11, 2}, {31, 2}, {40, 2}, {41, 1}, {60, 1}, {61, 2}, {71, 1}, {100, 1}, {101, 0}};
            for (int[] row : want) {
                due("quorum " + row[0], x.quorum(row[0], 1), row[1]);
            }
            work(x, "sit 1 2;sit 1 2;");
            due("without who lies", x.quorum(10, 1), 2);
        });
        sentence(24, "QUORUM q (1 to 693): 0 how many sets, 1 how many have no BACK they could do without.", () -> {
            ThroneBacks x = courtOf("back 99 0;".repeat(7));
            due("1", x.quorum(1, 0) * 10 + x.quorum(1, 1), 1277);
            due("300", x.quorum(300, 1), 35);
            due("692", x.quorum(692, 0) * 10 + x.quorum(692, 1), 11);
            due("693", x.quorum(693, 0) * 10 + x.quorum(693, 1), 11);
            for (int q : new int[] {0, 694, -1, Integer.MIN_VALUE, Integer.MAX_VALUE}) {
                noArgument("q " + q, () -> x.quorum(q, 0));
                noArgument("q " + q + ", 1", () -> x.quorum(q, 1));
            }
            noArgument("what 2", () -> x.quorum(1, 2));
            due("no backs", new ThroneBacks().quorum(1, 0) + new ThroneBacks().quorum(693, 1), 0);
        });
    }

    private static void lies(int n, int k, int q, long above, long below) {
        ThroneBacks x = new ThroneBacks();
        due("above " + n + " " + k + " " + q, x.lies(n, k, q, 0), above);
        due("below " + n + " " + k + " " + q, x.lies(n, k, q, 1), below);
    }

    private static void promise25() {
        sentence(25, "LIES of n, k, q: n councils, each a lie by q of 16, each by itself: how likely k or more are lies", () -> {
            lies(1, 1, 5, 5, 16);
            lies(2, 1, 8, 3, 4);
            lies(2, 2, 8, 1, 4);
            lies(2, 1, 5, 135, 256);
            lies(4, 2, 4, 67, 256);
            lies(3, 1, 0, 0, 1);
            lies(3, 0, 0, 1, 1);
            lies(3, 3, 16, 1, 1);
            lies(12, 12, 1, 1, 281_474_976_710_656L);
            lies(12, 1, 1, 281_474_976_710_656L - 129_746_337_890_625L, 281_474_976_710_656L);
        });
        sentence(25, "LIES of n (0 to 12), k (0 to 13), q (0 to 16)", () -> {
            lies(0, 0, 9, 1, 1);
            lies(0, 1, 9, 0, 1);
            lies(12, 13, 16, 0, 1);
            lies(12, 12, 16, 1, 1);
            lies(3, 4, 16, 0, 1);
            lies(0, 13, 0, 0, 1);
            ThroneBacks x = new ThroneBacks();
            int[][] wrong = {{-1, 0, 0, 0}, {13, 0, 0, 0}, {1, -1, 0, 0}, {1, 14, 0, 0}, {1, 1, -1, 0}, {1, 1, 17, 0},
                {1, 1, 1, -1}, {1, 1, 1, 2}, {Integer.MAX_VALUE, 0, 0, 0}, {0, Integer.MIN_VALUE, 0, 1}};
            for (int[] a : wrong) {
                noArgument("lies " + java.util.Arrays.toString(a), () -> x.lies(a[0], a[1], a[2], a[3]));
            }
        });
    }

    private static void promise25Terms() {
        sentence(25, "above (half 0), below (half 1), in least terms.", () -> {
            lies(1, 1, 12, 3, 4);
            lies(1, 1, 6, 3, 8);
            lies(2, 2, 4, 1, 16);
            lies(12, 0, 7, 1, 1);
            lies(5, 3, 0, 0, 1);
            ThroneBacks x = new ThroneBacks();
            for (int n = 0; n <= 12; n++) {
                for (int k = 0; k <= n + 1; k++) {
                    long above = x.lies(n, k, 6, 0);
                    long below = x.lies(n, k, 6, 1);
                    boolean least = above == 0 ? below == 1 : below == 1 || above % 2 == 1;
                    due("least terms " + n + " " + k, least && above <= below && 281_474_976_710_656L % below == 0 ? 1 : 0, 1);
                }
            }
        });
    }

    private static void kneel(int v, int w, int rests) {
        ThroneBacks x = new ThroneBacks();
        due("rests by " + v + ", " + w, x.kneel(v, w, 0), rests);
        due("the first by " + v + ", " + w, x.kneel(v, w, 1), 0);
        due("together by " + v + ", " + w, x.kneel(v, w, 2), 0);
    }

    private static void kneel() {
        sentence(26, "KNEEL by v, w: each of two sits, or kneels: one sits, the other one kneels: who sits has v, who kneels has 0 less w", () -> {
            kneel(5, 3, 1);
            kneel(5, 0, 3);
            kneel(1, 1, 1);
            kneel(99, 1, 1);
        });
        sentence(26, "both sit: each has 0; both kneel: each has 0", () -> {
            kneel(0, 3, 2);
            kneel(1, 3, 1);
            kneel(0, 0, 4);
        });
        sentence(26, "RESTS: neither would have more by the other thing", () -> {
            kneel(99, 0, 3);
            kneel(0, 99, 2);
            kneel(99, 99, 1);
        });
    }

    private static void promise26() {
        sentence(26, "KNEEL by v, w (0 to 99): 0 how many RESTS", () -> {
            kneel(0, 0, 4);
            kneel(99, 99, 1);
            ThroneBacks x = new ThroneBacks();
            for (int wrong : new int[] {-1, 100, Integer.MIN_VALUE, Integer.MAX_VALUE}) {
                noArgument("v " + wrong, () -> x.kneel(wrong, 0, 0));
                noArgument("w " + wrong, () -> x.kneel(0, wrong, 0));
            }
            noArgument("what 3", () -> x.kneel(0, 0, 3));
        });
        sentence(26, "1 the first (10 times what the one does, 0 he sits, 1 he kneels, and the other one; NONE), "
            + "2 what both have by it together (0 without).", () -> {
            // To sit is never worse than to kneel beside one who sits, so both sitting is always a rest, and the first.
            for (int v = 0; v <= 99; v += 33) {
                for (int w = 0; w <= 99; w += 33) {
                    due("the first", new ThroneBacks().kneel(v, w, 1), 0);
                    due("together", new ThroneBacks().kneel(v, w, 2), 0);
                }
            }
        });
    }

    private static void balm(ThroneBacks x, int backs, int n, int... want) {
        for (int back = 0; back < want.length; back++) {
            due("balm " + back + " of " + backs + " by " + n, x.balm(back, backs, n), want[back]);
        }
    }

    /** Tired by 21, 50, 8. */
    private static ThroneBacks tired() {
        ThroneBacks x = courtOf(COURT);
        work(x, "sit 0 0;sit 1 2;sit 2 1;");
        return x;
    }

    private static void balm() {
        sentence(27, "BALM of n among told BACKS (bits) by how TIRED they are: levelled: no more than that each, no more than a bound", () -> {
            ThroneBacks x = tired();
            balm(x, 7, 24, 8, 8, 8);
            balm(x, 7, 26, 9, 9, 8);
            balm(x, 7, 50, 21, 21, 8);
            balm(x, 7, 51, 21, 22, 8);
            balm(x, 5, 20, 12, 0, 8);
            balm(x, 2, 20, 0, 20, 0);
            ThroneBacks y = courtOf("back 99 9;".repeat(7) + "council 4 0;");
            work(y, "sit 6 0;sit 0 0;");
            balm(y, 127, 11, 5, 0, 0, 0, 0, 0, 5);
            work(x, "sit 2 0;");
            due("who lies is told, too", x.told(5) * 10 + x.balm(2, 4, 9), 49);
        });
        sentence(27, "the greatest by which no more than n are given", () -> {
            ThroneBacks x = tired();
            balm(x, 7, 0, 0, 0, 0);
            balm(x, 7, 2, 0, 0, 0);
            balm(x, 7, 3, 1, 1, 1);
            balm(x, 7, 5, 1, 1, 1);
            balm(x, 7, 25, 8, 8, 8);
            balm(x, 7, 27, 9, 9, 8);
            balm(x, 7, 78, 21, 49, 8);
        });
        sentence(27, "(all, if they are no more)", () -> {
            ThroneBacks x = tired();
            balm(x, 7, 79, 21, 50, 8);
            balm(x, 7, 80, 21, 50, 8);
            balm(x, 7, 9_999, 21, 50, 8);
            balm(x, 4, 8, 0, 0, 8);
            balm(courtOf(COURT), 7, 9, 0, 0, 0);
        });
    }

    private static void promise27() {
        sentence(27, "What a BACK gets of n (0 to 9,999) by BALM among told BACKS (0, if it is none of them)", () -> {
            ThroneBacks x = tired();
            balm(x, 6, 9_999, 0, 50, 8);
            balm(x, 0, 20, 0, 0, 0);
            for (int n : new int[] {-1, 10_000, Integer.MIN_VALUE, Integer.MAX_VALUE}) {
                noArgument("n " + n, () -> x.balm(0, 7, n));
                noArgument("none of them, n " + n, () -> x.balm(0, 6, n));
            }
        });
        sentence(27, "IllegalArgumentException: bits of no BACKS.", () -> {
            ThroneBacks x = tired();
            for (int bits : new int[] {8, 9, 15, -1, Integer.MIN_VALUE, Integer.MAX_VALUE}) {
                noArgument("bits " + bits, () -> x.balm(0, bits, 1));
            }
        });
    }
}
