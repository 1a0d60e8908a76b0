/** Promises 18 to 21: rosters, the fewest tellings, and how the king best holds himself up. */
final class RosterSentences extends PromiseTest {
    static void tell() {
        ways();
        best();
        promise18And19();
        promise20();
        ease();
        promise21();
    }

    private static void roster(ThroneBacks x, int bits, int want, int... gives) {
        due("roster " + bits, x.roster(bits), want);
        for (int council = 0; council < gives.length; council++) {
            due("gives " + council + " of " + bits, x.gives(council, bits), gives[council]);
        }
    }

    private static void ways() {
        sentence(18, "ROSTER of told COUNCILS (bits, 6 at most)", () -> {
            ThroneBacks x = courtOf("back 99 9;back 99 9;" + "council 1 0;".repeat(12) + "king 4;");
            roster(x, 63, 6, 0, 0, 0, 0, 0, 0, -1);
            roster(x, 0xfc0, 6, -1, -1, -1, -1, -1, -1, 0, 0, 0, 0, 0, 0);
            roster(x, 0x800, 1, -1, -1);
            noArgument("seven", () -> x.roster(127));
            noArgument("all twelve", () -> x.roster(4095));
        });
        sentence(18, "of all ways to give each to one BACK that did not fall", () -> {
            ThroneBacks x = courtOf("back 20 0;back 99 0;council 4 1;council 4 2;council 9 9;king 16;");
            roster(x, 3, 35, 0, 1);
            work(x, "sit 0 2;");
            roster(x, 3, 35, 1, 1);
            law(x, "0");
            roster(x, 3, 0, 1, 1);
            work(x, "again 20[day;];");
            due("it lies, not tired", x.back(0, 2) * 10 + x.told(5), 1);
            roster(x, 3, 0, 1, 1);
        });
        sentence(18, "BURDENS all as now", () -> {
            ThroneBacks x = courtOf(COURT);
            law(x, "4+tired*9+knows*9+day*50");
            roster(x, 5, 12, 0, -1, 0);
            work(x, "sit 0 0;");
            roster(x, 1, 4, 1);
        });
        sentence(18, "so that no BACK to which any is given is TIRED more than its STRENGTH by all that are given to it together", () -> {
            ThroneBacks x = courtOf("back 10 0;back 12 0;back 9 0;council 4 6;council 4 5;council 4 4;council 4 7;king 1;");
            roster(x, 7, 18, 0, 1, 1);
            roster(x, 15, 26, 0, 1, 1, 2);
            ThroneBacks y = courtOf("back 12 0;back 11 0;council 4 6;council 4 5;council 4 4;king 1;");
            roster(y, 7, 18, 0, 1, 0);
            ThroneBacks z = courtOf("back 20 0;back 11 0;council 4 6;council 4 5;council 4 4;king 1;");
            work(z, "sit 0 0;");
            roster(z, 7, 18, 0, 0, 1);
            work(z, "sit 0 2;");
            roster(z, 7, 18, 0, 1, 1);
            work(z, "sit 0 2;");
            roster(z, 7, -1, -1, -1, -1);
        });
    }

    private static void best() {
        sentence(18, "(to which none is given, may be)", () -> {
            ThroneBacks x = courtOf("back 5 0;back 20 0;council 4 0;council 4 0;king 20;");
            work(x, "sit 0 0;rest 0;");
            due("it stands, too tired", x.back(0, 3) * 100 + x.back(0, 7), -5);
            law(x, "0");
            roster(x, 3, 0, 1, 1);
            law(x, "10");
            roster(x, 3, 20, 1, 1);
        });
        sentence(18, "that of least BURDENS together", () -> {
            ThroneBacks x = courtOf(COURT);
            law(x, "weight-back*5");
            roster(x, 7, 6 + 3 + 22, 2, 2, 1);
            roster(x, 5, 6 + 22, 2, -1, 1);
            law(x, "weight-care");
            roster(x, 7, 16 + 8 + 4, 1, 1, 1);
            ThroneBacks y = courtOf("back 20 0;back 21 0;council 4 0;council 4 1;king 20;");
            law(y, "20+lie*back");
            roster(y, 3, 40, 1, 0);
            roster(y, 1, 20, 0, -1);
        });
        sentence(18, "of alike ways the first (by numbers of COUNCILS the least BACK)", () -> {
            ThroneBacks x = courtOf("back 9 0;back 9 0;back 9 0;council 4 4;council 4 3;council 4 2;king 1;");
            roster(x, 7, 12, 0, 0, 1);
            roster(x, 6, 7, -1, 0, 0);
            ThroneBacks y = courtOf("back 4 0;back 9 0;back 9 0;council 4 4;council 4 3;council 4 2;king 1;");
            roster(y, 7, 12, 1, 0, 1);
        });
        sentence(18, "NONE.", () -> {
            ThroneBacks x = courtOf(COURT);
            due("too heavy for any", x.roster(1) * 100 + law(x, "60") + x.roster(4), 2100);
            due("without backs", courtOf("council 1 1;").roster(1), -1);
            ThroneBacks y = courtOf("back 9 0;back 9 0;council 4 4;council 4 4;council 4 4;king 1;");
            roster(y, 3, 10, 0, 1);
            roster(y, 7, -1, -1, -1, -1);
            work(y, "sit 0 0;sit 0 0;sit 1 0;sit 1 0;");
            law(y, "0");
            due("all lie", y.roster(1), -1);
        });
    }

    private static void promise18And19() {
        sentence(18, "ROSTER: BURDENS together", () -> {
            ThroneBacks x = courtOf(COURT);
            roster(x, 7, 79, 0, 0, 1);
            roster(x, 4, 50, -1, -1, 1);
            due("of none told", x.roster(0), 0);
            due("of none told, without backs", new ThroneBacks().roster(0), 0);
        });
        sentence(18, "IllegalArgumentException: bits of no COUNCILS, or more than 6 (so below).", () -> {
            ThroneBacks x = courtOf(COURT);
            for (int bits : new int[] {8, 9, 15, -1, Integer.MIN_VALUE, Integer.MAX_VALUE, 1 << 30}) {
                noArgument("roster " + bits, () -> x.roster(bits));
                noArgument("gives " + bits, () -> x.gives(0, bits));
            }
            court(x, "council 1 1;".repeat(7) + "back 99 9;");
            noArgument("seven", () -> x.roster(127));
            noArgument("seven, gives", () -> x.gives(0, 127));
            due("six of seven", x.roster(126) > 0 ? x.gives(6, 126) : -5, 0);
            noArgument("without councils", () -> new ThroneBacks().roster(1));
        });
        sentence(19, "The BACK to which ROSTER of told COUNCILS gives a COUNCIL", () -> {
            ThroneBacks x = courtOf(COURT);
            due("ahead of any roster", x.gives(2, 4), 1);
            due("by other councils", x.gives(0, 1), 0);
            roster(x, 7, 79, 0, 0, 1);
            due("another roster", x.roster(2) * 10 + x.gives(2, 7), 81);
            ThroneBacks y = courtOf("back 1 0;".repeat(6) + "back 99 0;" + "council 9 9;".repeat(12));
            due("the last back, the last council", y.gives(11, 0x800), 6);
        });
        sentence(19, "NONE: none, or it is not one of them.", () -> {
            ThroneBacks x = courtOf(COURT);
            due("not one of them", x.gives(1, 5), -1);
            due("of none", x.gives(0, 0), -1);
            law(x, "60");
            due("no roster", x.gives(0, 5) * 10 + x.gives(2, 5), -11);
        });
    }

    private static void promise20() {
        sentence(20, "WORD of a COUNCIL: the fewest tellings, from now on, by which all BACKS that did not fall KNOW it", () -> {
            ThroneBacks x = courtOf("back 99 9;back 99 9;back 99 9;back 1 9;council 4 1;council 4 2;");
            work(x, "sit 0 0;");
            due("three", x.word(0), 3);
            work(x, "tell 0 2;");
            due("two", x.word(0), 2);
            work(x, "sit 3 1;");
            due("who lies need not know", x.word(0), 1);
            work(x, "tell 2 1;");
            due("all know", x.word(0), 0);
            ThroneBacks y = courtOf("back 21 9;back 99 9;back 99 9;council 4 1;council 9 9;");
            work(y, "sit 0 0;tell 0 1;sit 0 1;");
            due("who lies knows, and counts not", y.word(0), 1);
        });
        sentence(20, "NONE: none of them KNOWS it and there are any", () -> {
            ThroneBacks x = courtOf("back 21 9;back 99 9;council 4 1;council 9 9;");
            due("none knows", x.word(0), -1);
            work(x, "sit 0 0;sit 0 1;");
            due("only who lies knows", x.back(0, 4) * 10 + x.word(0), 9);
            due("of the other", x.word(1), -1);
        });
        sentence(20, "(0: there are none)", () -> {
            ThroneBacks x = courtOf("back 1 9;council 4 1;");
            due("one stands", x.word(0), -1);
            work(x, "sit 0 0;");
            due("none stands", x.word(0), 0);
            due("no backs", courtOf("council 1 1;").word(0), 0);
        });
        sentence(20, "WORD.", () -> {
            ThroneBacks x = courtOf("back 99 9;".repeat(7) + "council 1 1;".repeat(12));
            work(x, "sit 6 11;");
            due("the last of all", x.word(11), 6);
            noElement("no council 12", () -> x.word(12));
        });
    }

    private static void ease() {
        sentence(21, "EASE of told COUNCILS by n: the king holds himself up by some whole number in each COUNCIL", () -> {
            ThroneBacks x = courtOf(COURT);
            int[] n = {0, 7, 8, 31, 32, 43, 44, 55, 56, 177, 178, 191, 192};
            int[] want = {25, 25, 24, 22, 21, 21, 20, 20, 19, 11, 10, 10, 9};
            for (int i = 0; i < n.length; i++) {
                due("of all by " + n[i], x.ease(7, n[i]), want[i]);
            }
        });
        sentence(21, "(unlike ones may be unlike; W at the most)", () -> {
            ThroneBacks x = courtOf("council 1 9;council 1 3;king 10;");
            due("only the greater", x.ease(3, 6), 13);
            due("both", x.ease(3, 7), 13);
            due("both alike", x.ease(3, 8), 12);
            due("the greater by his weight", x.ease(3, 14), 9);
            due("never by more than his weight", x.ease(3, 9_999), 9);
            due("one by his weight", x.ease(2, 9_999), 3);
        });
        sentence(21, "HOURS of each times that number are no more than n together", () -> {
            ThroneBacks x = courtOf("council 9 0;council 2 0;king 40;");
            due("8", x.ease(1, 8), 40);
            due("9", x.ease(1, 9), 39);
            due("10 for both", x.ease(3, 10), 40);
            due("11 for both", x.ease(3, 11), 39);
            ThroneBacks y = courtOf("council 9 0;".repeat(12) + "king 40;");
            due("of twelve", y.ease(4095, 12 * 9 * 40 - 1), 1);
            due("of twelve to 0", y.ease(4095, 12 * 9 * 40), 0);
        });
        sentence(21, "SEAT of a COUNCIL: W and LIE less that number (whatever the LAW)", () -> {
            ThroneBacks x = courtOf(COURT);
            law(x, "0");
            work(x, "hold 9;");
            due("whatever the law, however held", x.ease(2, 0), 17);
            due("the last", x.ease(4, 0), 25);
        });
        sentence(21, "the least bound above which no SEAT needs to be", () -> {
            ThroneBacks x = courtOf(COURT);
            due("the highest counts", x.ease(3, 0), 21);
            due("by 31", x.ease(2, 31), 2);
            due("by 32", x.ease(2, 32), 1);
            due("bound by the greatest lie", x.ease(6, 9_999), 9);
            ThroneBacks y = courtOf("council 9 9;king 40;");
            due("49", y.ease(1, 8), 49);
            due("48", y.ease(1, 9), 48);
        });
    }

    private static void promise21() {
        sentence(21, "EASE of told COUNCILS (bits) by n (0 to 9,999)", () -> {
            ThroneBacks x = courtOf(COURT);
            due("0", x.ease(7, 0), 25);
            due("9,999", x.ease(7, 9_999), 9);
            for (int n : new int[] {-1, 10_000, Integer.MIN_VALUE, Integer.MAX_VALUE}) {
                noArgument("n " + n, () -> x.ease(7, n));
                noArgument("none told, n " + n, () -> x.ease(0, n));
            }
        });
        sentence(21, "(0: none are told)", () -> {
            due("by 0", courtOf(COURT).ease(0, 0), 0);
            due("by 5", courtOf(COURT).ease(0, 5), 0);
            due("in no court", new ThroneBacks().ease(0, 9_999), 0);
        });
        sentence(21, "IllegalArgumentException: bits of no COUNCILS.", () -> {
            ThroneBacks x = courtOf(COURT);
            for (int bits : new int[] {8, 9, 15, -1, Integer.MIN_VALUE, Integer.MAX_VALUE}) {
                noArgument("bits " + bits, () -> x.ease(bits, 0));
            }
            noArgument("in no court", () -> new ThroneBacks().ease(1, 0));
            due("more than 6 are right here", courtOf("council 1 1;".repeat(12)).ease(4095, 0), 21);
        });
    }
}
