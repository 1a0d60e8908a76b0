/** Promises 38 to 41: images, refusals, and what is kept. */
final class KeptSentences extends PromiseTest {
    static void tell() {
        promise38();
        promise39();
        promise40();
        promise40EachCall();
        promise41();
    }

    private static void sixteenWorks() {
        ThroneBacks x = courtOf(COURT);
        work(x, "again 16[day;];");
        for (int i = 0; i < 15; i++) {
            work(x, "day;");
        }
        x.image();
        for (int i = 0; i < 16; i++) {
            x.undo();
        }
        for (int i = 1; i <= 16; i++) {
            work(x, "hold " + i + ";");
        }
        x.restore();
        due("16 works", x.count(2), 16);
        for (int i = 15; i >= 0; i--) {
            due("each of 16 is undone", x.undo() * 100 + x.told(3) + x.told(4), i * 100 + (i == 0 ? 0 : i + 15));
        }
    }

    private static void promise38() {
        sentence(38, "An IMAGE of all that WORK changes, and of the WORKS that can be undone", () -> {
            ThroneBacks x = courtOf(COURT);
            work(x, "sit 0 0;hold 2;day;");
            String first = stateOf(x);
            work(x, "sit 1 2;tell 1 0;sit 2 2;rest 0;");
            String second = stateOf(x);
            x.image();
            same("an image changes nothing", stateOf(x), second);
            x.undo();
            x.undo();
            work(x, "sit 2 0;hold 9;day;day;");
            work(x, "sit 2 0;sit 0 2;");
            work(x, "sit 1 0;tell 1 0;");
            x.restore();
            same("the state", stateOf(x), second);
            due("its works", x.count(2), 2);
            x.undo();
            same("its past, not the later one", stateOf(x), first);
            x.undo();
            same("its first", stateOf(x), stateOf(courtOf(COURT)));
            ThroneBacks y = courtOf("back 99 9;".repeat(7) + "council 4 9;".repeat(12) + "king 1;");
            work(y, "sit 0 11;tell 0 6;");
            work(y, "sit 6 11;");
            y.image();
            y.undo();
            due("by hearing ahead of it", y.hearing(6, 11), 1);
            y.restore();
            due("of itself behind it", y.hearing(6, 11), 0);
            due("by hearing, undone", y.undo() * 10 + y.hearing(6, 11), 11);
            sixteenWorks();
        });
        sentence(38, "how many there are", () -> {
            ThroneBacks x = new ThroneBacks();
            due("1", x.image(), 1);
            due("2", x.image(), 2);
            due("3", x.image() * 10 + x.count(0), 33);
            x.restore();
            x.restore();
            due("2 again", x.image(), 2);
            court(x, COURT);
            due("1 in a new court", x.image(), 1);
        });
        sentence(38, "-1: there are 3.", () -> {
            ThroneBacks x = courtOf(COURT);
            x.image();
            work(x, "day;");
            x.image();
            work(x, "day;");
            x.image();
            work(x, "day;");
            due("a 4th", x.image() * 10 + x.count(0), -7);
            due("once more", x.image(), -1);
            due("the third is as it was", x.restore() * 10 + x.told(3), 22);
            due("the second", x.restore() * 10 + x.told(3), 11);
            due("the first", x.restore() * 10 + x.told(3), 0);
        });
    }

    private static void promise39() {
        sentence(39, "All is as in the latest IMAGE, which is gone", () -> {
            ThroneBacks x = courtOf(COURT);
            work(x, "hold 1;");
            x.image();
            work(x, "hold 2;");
            x.image();
            work(x, "hold 3;hold 3;");
            law(x, "9");
            book(x, "1 3;");
            put(x, "day;");
            due("the latest", x.restore() * 10 + x.told(4), 12);
            due("none refused", x.told(10), 0);
            due("law, book and tape stay", x.load(0, 0) * 1000 + x.told(9) * 100 + x.count(1), 9120);
            due("it is gone, the one ahead of it is next", x.restore() * 10 + x.told(4), 1);
            due("all are gone", x.restore() * 10 + x.told(4), -9);
        });
        sentence(39, "how many are left", () -> {
            ThroneBacks x = courtOf(COURT);
            x.image();
            x.image();
            x.image();
            due("2", x.restore() * 10 + x.count(0), 22);
            due("1", x.restore() * 10 + x.count(0), 11);
            due("0", x.restore() * 10 + x.count(0), 0);
        });
        sentence(39, "-1: there is none.", () -> {
            ThroneBacks x = new ThroneBacks();
            due("in a new one", x.restore(), -1);
            court(x, COURT);
            work(x, "sit 0 0;hold 2;hold 2;day;");
            String ahead = allOf(x);
            due("in a court", x.restore() * 10 + x.count(0), -10);
            same("nothing is changed", allOf(x), ahead);
            x.image();
            x.restore();
            due("it is gone", x.restore(), -1);
            x.image();
            court(x, COURT);
            due("a new court has none", x.restore(), -1);
        });
    }

    private static void promise40() {
        sentence(40, "How many calls were refused: 0 NoSuchElementException, 1 IllegalArgumentException", () -> {
            ThroneBacks x = courtOf(COURT);
            due("none", x.status(0) * 10 + x.status(1), 0);
            noElement("back 3", () -> x.back(3, 9));
            noArgument("what 9", () -> x.back(0, 9));
            noArgument("what 99", () -> x.told(99));
            due("one and two", x.status(0) * 10 + x.status(1), 12);
            court(x, "x");
            work(x, "hold 0;dey;");
            work(x, "hold 0;");
            x.undo();
            x.undo();
            x.restore();
            x.count(9);
            x.status(9);
            due("no other is a refusal", x.status(0) * 10 + x.status(1), 12);
            court(x, COURT);
            due("a new court keeps them", x.status(0) * 10 + x.status(1), 12);
        });
        sentence(40, "NONE for others.", () -> {
            ThroneBacks x = courtOf(COURT);
            for (int what : new int[] {-1, 2, 3, Integer.MIN_VALUE, Integer.MAX_VALUE}) {
                due("status " + what, x.status(what), -1);
            }
            due("is no refusal", x.status(0) + x.status(1), 0);
        });
        sentence(40, "(No IMAGE keeps it.)", () -> {
            ThroneBacks x = courtOf(COURT);
            x.image();
            noElement("back 3", () -> x.back(3, 9));
            noArgument("what 99", () -> x.told(99));
            x.restore();
            due("behind restore", x.status(0) * 10 + x.status(1), 11);
            work(x, "day;");
            noArgument("what 99", () -> x.told(99));
            x.undo();
            due("behind undo", x.status(0) * 10 + x.status(1), 12);
        });
    }

    private static void promise40EachCall() {
        sentence(40, "How many calls were refused", () -> {
            ThroneBacks x = courtOf(COURT);
            Checks.Call[] elements = {() -> x.back(9, 0), () -> x.council(9, 0), () -> x.hearing(9, 9), () -> x.load(9, 9),
                () -> x.burden(9, 9), () -> x.could(9), () -> x.gives(9, -1), () -> x.word(9), () -> x.balm(9, -1, -1),
                () -> x.heaviest(9, 9), () -> x.listeners(9), () -> x.ready(9, 9), () -> x.sure(9, 9), () -> x.bearers(9),
                () -> x.rumour(9, 9)};
            for (int i = 0; i < elements.length; i++) {
                noElement("element " + i, elements[i]);
                due("counted element " + i, x.status(0), i + 1);
            }
            Checks.Call[] arguments = {() -> x.court(1), () -> x.law(1), () -> x.work(1), () -> x.book(1), () -> x.told(12),
                () -> x.back(0, 8), () -> x.council(0, 5), () -> x.would(0, 41, -1, 0, 10, 1000, 13, 401, 7),
                () -> x.ahead(100, 2), () -> x.roster(8), () -> x.gives(0, 8), () -> x.ease(8, -1), () -> x.fits(2),
                () -> x.look(2), () -> x.quorum(0, 2), () -> x.lies(13, 14, 17, 2), () -> x.kneel(100, 100, 3),
                () -> x.balm(0, 8, -1), () -> x.weariest(2), () -> x.heaviest(0, 2), () -> x.sure(0, 2),
                () -> x.rumour(0, 2), () -> x.lied(10, 2), () -> x.reign(0, 17, 0, 4), () -> x.span(0, 0, 17, 0, 3, 3)};
            for (int i = 0; i < arguments.length; i++) {
                noArgument("argument " + i, arguments[i]);
                due("counted argument " + i, x.status(1), i + 1);
            }
            due("elements stay", x.status(0), elements.length);
        });
    }

    private static void promise41() {
        sentence(41, "0 IMAGES, 1 bytes of the TAPE, 2 WORKS that can be undone", () -> {
            ThroneBacks x = courtOf(COURT);
            due("none", x.count(0) + x.count(1) + x.count(2), 0);
            x.image();
            work(x, "day;");
            work(x, "");
            x.image();
            x.image();
            put(x, " ".repeat(40));
            due("images", x.count(0), 3);
            due("bytes", x.count(1), 40);
            due("works", x.count(2), 2);
            x.undo();
            due("works left", x.count(2), 1);
            x.restore();
            due("images left, works by it", x.count(0) * 10 + x.count(2), 22);
            x.work(0);
            due("bytes left", x.count(1), 0);
        });
        sentence(41, "NONE for others.", () -> {
            ThroneBacks x = courtOf(COURT);
            for (int what : new int[] {-1, 3, 4, Integer.MIN_VALUE, Integer.MAX_VALUE}) {
                due("count " + what, x.count(what), -1);
            }
            due("is no refusal", x.status(0) + x.status(1), 0);
        });
    }
}
