/** Promises 1 and 2: a new object, and its tape. */
final class TapeSentences extends PromiseTest {
    static void tell() {
        promise1();
        promise2();
    }

    private static void promise1() {
        sentence(1, "A COURT without CLAUSES.", () -> {
            ThroneBacks x = new ThroneBacks();
            due("backs", x.told(0), 0);
            due("councils", x.told(1), 0);
            due("weight", x.told(2), 20);
            noElement("back 0", () -> x.back(0, 0));
            noElement("council 0", () -> x.council(0, 0));
            due("law", x.would(12, 5, 3, 9, 9, 999, 12, 400, 6), 10);
        });
        sentence(1, "It is DAY 0 at first, nobody bore anything, is TIRED, fell, KNOWS anything", () -> {
            ThroneBacks x = courtOf("back 99 9;".repeat(7) + "council 9 9;".repeat(12));
            for (int what : new int[] {3, 5, 6, 7, 8, 10, 11}) {
                due("of a new one, told " + what, new ThroneBacks().told(what), 0);
                due("told " + what, x.told(what), 0);
            }
            for (int back = 0; back < 7; back++) {
                for (int what = 2; what < 7; what++) {
                    due("back " + back + " " + what, x.back(back, what), 0);
                }
                due("hearing " + back, x.hearing(back, 11), -1);
            }
            for (int council = 0; council < 12; council++) {
                due("council " + council, x.council(council, 2) + x.council(council, 3) + x.council(council, 4), 0);
            }
        });
        sentence(1, "the king holds himself up by 0", () -> {
            due("held", new ThroneBacks().told(4), 0);
            ThroneBacks x = courtOf(COURT);
            due("held in a court", x.told(4), 0);
            due("hold 0 is refused", work(x, "hold 0;"), 0);
        });
    }

    private static void promise2() {
        sentence(2, "Twenty bytes come on the TAPE", () -> {
            ThroneBacks x = new ThroneBacks();
            due("of a new one", x.count(1), 0);
            x.feed(0, 0, 0, 0, 0);
            due("noughts are bytes, too", x.count(1), 20);
            x.feed(-1, -1, -1, -1, -1);
            due("twice", x.count(1), 40);
        });
        sentence(2, "of each number the highest first", () -> {
            ThroneBacks x = new ThroneBacks();
            x.feed(0x6b696e67, 0x20333b6b, 0x696e6720, 0x393b6b69, 0x6e672035);
            due("king 3;king 9;", x.court(14), 0);
            due("king 9", x.told(2), 9);
            x.feed(0x20202020, 0x20202020, 0x20202020, 0x20202020, 0x6b696e67);
            x.feed(0x2037203b, 0x20202020, 0x20202020, 0x20202020, 0x20202020);
            due("a text over two feeds", x.court(40), 0);
            due("king 7", x.told(2), 7);
            x.feed(0xe9202020, 0, 0, 0, 0);
            due("the highest byte above 127", x.court(4) * 10 + x.fault(), -90);
            x.feed(0x202020ff, 0, 0, 0, 0);
            due("the lowest byte of 255", x.court(4) * 10 + x.fault(), -87);
        });
        sentence(2, "how many there are", () -> {
            ThroneBacks x = new ThroneBacks();
            for (int i = 1; i <= 30; i++) {
                due("feed " + i, x.feed(1, 2, 3, 4, 5), 20 * i);
            }
            x.court(0);
            due("on an empty one", x.feed(1, 2, 3, 4, 5), 20);
        });
        sentence(2, "NONE, doing nothing, if there would be more than 600.", () -> {
            ThroneBacks x = new ThroneBacks();
            put(x, " ".repeat(573) + "king 7;");
            due("580 bytes", x.count(1), 580);
            due("600 are not more than 600", x.feed(0x20202020, 0x20202020, 0x20202020, 0x20202020, 0x20202020), 600);
            due("620 are", x.feed(-1, -1, -1, -1, -1), -1);
            due("once more", x.feed(0, 0, 0, 0, 0), -1);
            due("600 stay", x.count(1), 600);
            due("the text stays", x.court(600), 0);
            due("its king", x.told(2), 7);
            due("no refusal", x.status(0) + x.status(1), 0);
        });
    }
}
