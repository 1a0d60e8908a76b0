/**
 * Promises 36 and 37. By SEED 1 the first draws are 16838, 5758, 10113, 17515, 31051, 5627, 23010, 7419, 16212, 4086,
 * so with 5 backs and 2 councils what is drawn can be told by hand.
 */
final class ReignSentences extends PromiseTest {
    private static final String FIVE = "back 99 9;back 99 9;back 99 9;back 99 9;back 99 9;council 4 9;council 8 0;";
    private static final String DAYS = "again 40[day;day;day;day;];";

    static void tell() {
        days();
        sits();
        tells();
        draws();
        promise36();
        promise37();
        promise37Wrong();
    }

    private static void reign(ThroneBacks x, int seed, int q, int days, int... want) {
        for (int what = 0; what < want.length; what++) {
            due("reign " + seed + " " + q + " " + days + " " + what, x.reign(seed, q, days, what), want[what]);
        }
    }

    private static void days() {
        sentence(36, "A REIGN by a SEED: for so many DAYS: twice, one behind the other", () -> {
            ThroneBacks x = courtOf("back 99 9;council 4 0;");
            law(x, "7");
            for (int days = 1; days <= 48; days++) {
                reign(x, 3, 0, days, 2 * days, 0, 0, 0);
            }
            law(x, "tired+9");
            // 9, then 18 more by how tired it is behind the first: 27, less 14.
            reign(x, 3, 0, 1, 2, 0, 13, 0);
        });
        sentence(36, "behind the two times day", () -> {
            ThroneBacks x = courtOf("back 99 0;council 4 0;king 40;");
            work(x, DAYS);
            work(x, DAYS);
            law(x, "day-300");
            // On day 320 20 and 20, less 5; then 21 and 21, less 5.
            reign(x, 5, 0, 1, 2, 0, 35, 0);
            reign(x, 5, 0, 2, 4, 0, 72, 0);
        });
        sentence(36, "DAYS go by as by day (beyond 400, too)", () -> {
            ThroneBacks x = courtOf("back 99 0;council 4 0;king 40;");
            work(x, DAYS);
            work(x, DAYS);
            work(x, DAYS);
            law(x, "(day-400)*6");
            // 0; 6 and 6, less 5; 12 and 12, less 5.
            reign(x, 5, 0, 3, 6, 0, 26, 0);
        });
        sentence(36, "Without BACKS or COUNCILS nothing is DRAWN, DAYS go by", () -> {
            reign(courtOf("back 9 9;"), 1, 16, 48, 0, 0, 0, 0);
            reign(courtOf("council 9 9;"), 1, 16, 48, 0, 0, 0, 0);
            reign(new ThroneBacks(), 1, 16, 48, 0, 0, 0, 0);
        });
    }

    private static void sits() {
        sentence(36, "DRAW by how many BACKS, by how many COUNCILS: sit", () -> {
            ThroneBacks x = courtOf(FIVE);
            // Sits 3 0, then 0 1: 29 and 40, less 14 each.
            reign(x, 1, 0, 1, 2, 0, 41, 1);
            ThroneBacks y = courtOf("back 28 9;back 28 9;back 28 9;back 28 9;back 28 9;council 4 9;council 8 0;");
            reign(y, 1, 0, 1, 2, 9, 41, 0);
        });
        sentence(36, "or, if that can't be done, rest (if it can)", () -> {
            ThroneBacks x = courtOf("back 1 0;council 4 0;");
            // Falls by 20, rests to 10, 5 by the day; then falls by 25, rests to 12, 7.
            reign(x, 123, 0, 1, 1, 0, 5, 0);
            reign(x, 123, 16, 2, 2, 0, 7, 0);
            work(x, "sit 0 0;");
            // Lies at 20: rests to 10, falls by 30, 25.
            reign(x, 123, 5, 1, 1, 1, 25, 0);
            work(x, "again 5[day;];");
            due("it lies, not tired", x.told(5) * 10 + x.told(6), 10);
            reign(x, 9, 3, 48, 0, 1, 0, 0);
        });
    }

    private static void tells() {
        sentence(36, "then DRAW by 16: is it below Q", () -> {
            ThroneBacks x = courtOf(FIVE);
            // 1 of 16 is not below 1: the next sit is 0 1; it is below 2: two more are drawn, the next sit is 2 0.
            reign(x, 1, 1, 1, 2, 0, 41, 1);
            reign(x, 1, 2, 1, 2, 0, 30, 1);
            ThroneBacks y = courtOf("back 99 1;back 99 0;council 4 9;");
            law(y, "20*knows");
            // By SEED 2 908, 22817, 10239, ..: sits 0 0; 15 is not below 15: sits 0 0 by 20.
            reign(y, 2, 15, 1, 2, 0, 14, 1);
            // 15 is below 16: tells 0 1, sits 1 0 by 20.
            reign(y, 2, 16, 1, 2, 0, 15, 1);
        });
        sentence(36, "DRAW by how many BACKS, A, then likewise B: tell A B (if it can be done)", () -> {
            ThroneBacks x = courtOf("back 99 1;back 99 0;council 4 9;");
            law(x, "20*knows");
            // SEED 2 draws 908, 22817, 10239, 12914, 25837, 27095, ..: sits 0 0, tells 0 1, sits 1 0 by 20.
            reign(x, 2, 16, 1, 2, 0, 15, 1);
            ThroneBacks y = courtOf("back 1 9;back 99 9;back 99 9;back 99 9;back 99 9;council 4 9;council 8 0;king 1;");
            work(y, "sit 1 0;tell 1 2;day;day;");
            law(y, "40*knows");
            // Sits 3 0 by 0, tells 0 1, who has nothing to tell, sits 2 0 by 40, less 14.
            reign(y, 1, 16, 1, 2, 0, 26, 1);
        });
    }

    private static void draws() {
        sentence(36, "DRAW: the SEED (32 bits) becomes itself times 1,103,515,245, and 12,345 (it wraps)", () -> {
            ThroneBacks x = courtOf(FIVE);
            for (int seed : new int[] {1, 0, -1, 77, Integer.MAX_VALUE, Integer.MIN_VALUE, 123_456_789}) {
                int[] bearers = drawn(seed, 6);
                // Without tellings 1st, 2nd, then past the 3rd the 4th, 5th are backs and councils.
                int[] tired = new int[5];
                tired[bearers[0] % 5] += bearers[1] % 2 == 0 ? 29 : 40;
                tired[bearers[3] % 5] += bearers[4] % 2 == 0 ? 29 : 40;
                int together = 0;
                for (int own : tired) {
                    together += Math.max(0, own - 14);
                }
                due("seed " + seed, x.reign(seed, 0, 1, 2), together);
            }
        });
        sentence(36, "its bits 16 to 30, what is left of them", () -> {
            due("bits", drawn(1, 1)[0], 16838);
            ThroneBacks x = courtOf("back 1 0;".repeat(7) + "council 4 0;");
            for (int seed = -20; seed < 20; seed++) {
                int[] drawn = drawn(seed, 4);
                // Who is drawn twice falls and rests, others fall and lie.
                int bits = 1 << drawn[0] % 7 ^ 1 << drawn[3] % 7;
                due("seed " + seed, x.reign(seed, 0, 1, 1), bits);
            }
        });
    }

    private static int[] drawn(long seed, int many) {
        int[] drawn = new int[many];
        long now = seed & 0xffff_ffffL;
        for (int i = 0; i < many; i++) {
            now = (now * 1_103_515_245L + 12_345L) % 0x1_0000_0000L;
            drawn[i] = (int) (now / 65_536 % 32_768);
        }
        return drawn;
    }

    private static void promise36() {
        sentence(36, "A REIGN of so many DAYS (1 to 48), Q (0 to 16)", () -> {
            ThroneBacks x = courtOf(FIVE);
            due("1 day", x.reign(1, 0, 1, 0), 2);
            due("48 days, all tell", x.reign(1, 16, 48, 0) > 2 ? 1 : 0, 1);
            for (int days : new int[] {0, 49, -1, Integer.MIN_VALUE, Integer.MAX_VALUE}) {
                noArgument("days " + days, () -> x.reign(1, 1, days, 0));
            }
            for (int q : new int[] {-1, 17, Integer.MIN_VALUE, Integer.MAX_VALUE}) {
                noArgument("Q " + q, () -> x.reign(1, q, 1, 0));
            }
            noArgument("what 4", () -> x.reign(1, 1, 1, 4));
            noArgument("what -1", () -> x.reign(1, 1, 1, -1));
            noArgument("without backs, days 49", () -> new ThroneBacks().reign(1, 1, 49, 0));
        });
        sentence(36, "0 how often any COUNCIL was BORNE in it", () -> {
            ThroneBacks x = courtOf(FIVE);
            work(x, "sit 0 1;sit 1 0;");
            due("in it, not ahead of it", x.reign(1, 0, 1, 0), 2);
        });
        sentence(36, "1 BACKS that fell and lie then (bits)", () -> {
            ThroneBacks x = courtOf("back 1 9;back 28 9;back 28 9;back 28 9;back 28 9;council 4 9;council 8 0;");
            work(x, "sit 4 0;");
            // Sits 3 0, then 0 1; back 4 lies from ahead of it.
            reign(x, 1, 0, 1, 2, 25);
        });
        sentence(36, "2 how TIRED all are together then, 3 COUNCILS that any BACK KNOWS then (bits).", () -> {
            ThroneBacks x = courtOf(FIVE);
            work(x, "sit 0 1;");
            // 40 is 26 then; sits 3 0, 2 0: 15 each.
            reign(x, 1, 16, 1, 2, 0, 56, 1);
            ThroneBacks y = courtOf("back 99 9;back 99 9;back 99 9;back 99 9;back 99 9;council 4 0;council 8 0;council 1 9;");
            work(y, "sit 4 2;");
            due("what it knew ahead of it, too", y.reign(1, 0, 1, 3), 4);
        });
    }

    private static void promise37() {
        sentence(37, "Of so many SEEDS (1 to 10; seed, seed and 1, ..)", () -> {
            ThroneBacks x = courtOf("back 28 9;back 40 9;back 28 0;council 4 9;council 8 0;council 9 4;");
            for (int many = 1; many <= 10; many++) {
                int lying = 0;
                for (int i = 0; i < many; i++) {
                    lying += x.reign(77 + i, 3, 12, 1) >> 2 & 1;
                }
                due("lying of " + many, x.span(77, many, 3, 12, 2, 2), lying);
            }
            int over = Integer.MAX_VALUE;
            int lying = (x.reign(over, 3, 12, 1) & 1) + (x.reign(Integer.MIN_VALUE, 3, 12, 1) & 1);
            due("seeds wrap", x.span(over, 2, 3, 12, 2, 0), lying);
            for (int many : new int[] {0, 11, -1, Integer.MIN_VALUE, Integer.MAX_VALUE}) {
                noArgument("many " + many, () -> x.span(1, many, 1, 1, 0, 0));
            }
        });
        sentence(37, "0 the fewest COUNCILS BORNE in it, 1 the most, 2 by how many a BACK lies then", () -> {
            ThroneBacks x = courtOf("back 28 9;back 40 9;back 28 0;council 4 9;council 8 0;council 9 4;");
            for (int many = 1; many <= 10; many++) {
                int fewest = 999;
                int most = 0;
                for (int i = 0; i < many; i++) {
                    fewest = Math.min(fewest, x.reign(77 + i, 3, 12, 0));
                    most = Math.max(most, x.reign(77 + i, 3, 12, 0));
                }
                due("fewest of " + many, x.span(77, many, 3, 12, 0, 1), fewest);
                due("most of " + many, x.span(77, many, 3, 12, 1, 0), most);
            }
            due("fewest is not most", x.span(77, 10, 3, 12, 0, 0) < x.span(77, 10, 3, 12, 1, 0) ? 1 : 0, 1);
            ThroneBacks y = courtOf("back 1 0;back 99 9;council 4 0;");
            due("each back for itself", y.span(1, 10, 0, 1, 2, 1), 0);
            int lying = 0;
            for (int i = 1; i <= 10; i++) {
                lying += y.reign(i, 0, 1, 1);
            }
            due("by some of ten", y.span(1, 10, 0, 1, 2, 0), lying);
        });
    }

    private static void promise37Wrong() {
        sentence(37, "(IllegalArgumentException: no such BACK, also for 0, 1.)", () -> {
            ThroneBacks x = courtOf(COURT);
            for (int back : new int[] {-1, 3, 7, Integer.MIN_VALUE, Integer.MAX_VALUE}) {
                for (int what = 0; what < 3; what++) {
                    int asked = what;
                    noArgument("back " + back + ", " + what, () -> x.span(1, 1, 1, 1, asked, back));
                }
            }
            due("counted by its reason", x.status(0) * 100 + x.status(1), 15);
            noArgument("no backs", () -> new ThroneBacks().span(1, 1, 1, 1, 0, 0));
            int[][] wrong = {{1, 1, -1, 1, 0, 0}, {1, 1, 17, 1, 0, 0}, {1, 1, 1, 0, 0, 0}, {1, 1, 1, 49, 0, 0},
                {1, 1, 1, 1, -1, 0}, {1, 1, 1, 1, 3, 0}};
            for (int[] a : wrong) {
                noArgument("span " + java.util.Arrays.toString(a), () -> x.span(a[0], a[1], a[2], a[3], a[4], a[5]));
            }
            due("one day, none tell", x.span(77, 1, 0, 1, 0, 2), x.reign(77, 0, 1, 0));
            due("48 days, all tell", x.span(77, 1, 16, 48, 1, 0), x.reign(77, 16, 48, 0));
            ThroneBacks y = courtOf("back 1 1;");
            due("no councils", y.span(1, 10, 16, 48, 1, 0) * 10 + y.span(1, 10, 16, 48, 2, 0), 0);
        });
    }
}
