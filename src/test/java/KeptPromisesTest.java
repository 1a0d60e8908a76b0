/** Promises 38 to 41: images, refusals, and what is kept. */
public final class KeptPromisesTest extends PromiseTest {
    public static void main(String[] args) {
        promise38();
        promise39();
        promise40();
        promise40EachCall();
        promise41();
        Checks.finish();
    }

    private static void promise38() {
        ThroneBacks x = courtOf(COURT);
        due("image 1", x.image(), 1);
        due("image 2", x.image(), 2);
        due("image 3", x.image(), 3);
        due("image 4", x.image(), -1);
        due("images", x.count(0), 3);
        due("restore", x.restore(), 2);
        due("image 3 again", x.image(), 3);
        court(x, "");
        due("a new court has none", x.image(), 1);
    }

    private static void promise39() {
        ThroneBacks x = courtOf(COURT);
        due("restore: none", x.restore(), -1);
        work(x, "sit 0 0;hold 2;day;");
        x.image();
        work(x, "sit 1 2;tell 1 0;tell 1 0;");
        x.image();
        x.undo();
        x.undo();
        work(x, "sit 2 2;hold 9;hold 9;");
        law(x, "9");
        book(x, "1 3;");
        due("refused ahead of it", x.told(10), 1);
        due("restore", x.restore(), 1);
        due("restore: refused behind it", x.told(10), 0);
        due("restore: works", x.count(2), 2);
        due("restore: who lies", x.told(5), 0);
        due("restore: who knows", x.council(2, 3), 3);
        due("restore: by hearing", x.hearing(0, 2), 1);
        due("restore: who bore", x.council(2, 4) * 10 + x.council(2, 2), 21);
        due("restore: held", x.told(4), 2);
        due("restore: the day", x.told(3), 1);
        due("restore: how tired", x.back(0, 2) * 100 + x.back(1, 2), 1146);
        due("restore: the law stays", x.load(0, 0), 9);
        due("restore: the book stays", x.told(9), 1);
        due("restore: what can be undone", x.undo(), 1);
        due("restore: is undone", x.told(8), 1);
        due("restore: undone once more", x.undo(), 0);
        due("restore: nothing is left", x.told(7), 0);
        due("restore the first", x.restore(), 0);
        due("restore the first: works", x.count(2), 1);
        due("restore the first: bore", x.told(7), 1);
        due("restore the first: undo", x.undo(), 0);
        due("restore the first: undone", x.told(7) + x.told(3) + x.told(4), 0);
        due("restore: none is left", x.restore(), -1);
        restoreWithItsPast();
        work(x, "hold 0;");
        due("restore: none, nothing is done", x.restore() * 10 + x.told(10), -9);
    }

    private static void restoreWithItsPast() {
        ThroneBacks x = courtOf("back 99 9;back 99 9;council 4 9;king 1;");
        work(x, "sit 0 0;tell 0 1;");
        work(x, "sit 1 0;");
        x.image();
        x.undo();
        x.undo();
        work(x, "day;day;");
        work(x, "hold 1;");
        x.restore();
        due("restore: of itself", x.hearing(1, 0), 0);
        due("restore: its past, not the later one", x.undo() * 10 + x.hearing(1, 0), 11);
        due("restore: no days", x.told(3) + x.told(4), 0);
        due("restore: its first", x.undo() * 10 + x.told(8), 0);
        work(x, "again 16[day;];");
        for (int i = 0; i < 15; i++) {
            work(x, "day;");
        }
        x.image();
        for (int i = 0; i < 16; i++) {
            x.undo();
        }
        work(x, "hold 1;");
        x.restore();
        due("restore: 16 works", x.count(2), 16);
        for (int i = 15; i >= 0; i--) {
            due("restore: each of 16 is undone", x.undo() * 100 + x.told(3), i * 100 + (i == 0 ? 0 : i + 15));
        }
    }

    private static void promise40() {
        ThroneBacks x = courtOf(COURT);
        due("status 0 at first", x.status(0), 0);
        due("status 1 at first", x.status(1), 0);
        x.image();
        noElement("back 3", () -> x.back(3, 9));
        noArgument("what 9", () -> x.back(0, 9));
        noArgument("what 99", () -> x.told(99));
        due("status 0", x.status(0), 1);
        due("status 1", x.status(1), 2);
        due("status 2", x.status(2), -1);
        due("status -1", x.status(-1), -1);
        x.restore();
        due("status: no image keeps it", x.status(0) * 10 + x.status(1), 12);
        court(x, COURT);
        due("status: a new court", x.status(0) * 10 + x.status(1), 12);
        court(x, "x");
        x.undo();
        x.restore();
        x.count(9);
        due("status: no refusals", x.status(0) * 10 + x.status(1), 12);
    }

    private static void promise40EachCall() {
        ThroneBacks x = courtOf(COURT);
        Checks.Call[] elements = {() -> x.back(9, 0), () -> x.council(9, 0), () -> x.hearing(9, 9), () -> x.load(9, 9),
            () -> x.burden(9, 9), () -> x.could(9), () -> x.gives(9, -1), () -> x.word(9), () -> x.balm(9, -1, -1),
            () -> x.heaviest(9, 9), () -> x.listeners(9), () -> x.ready(9, 9), () -> x.sure(9, 9), () -> x.bearers(9),
            () -> x.rumour(9, 9)};
        for (int i = 0; i < elements.length; i++) {
            noElement("element " + i, elements[i]);
            due("counted element " + i, x.status(0), i + 1);
        }
        Checks.Call[] arguments = {() -> x.court(1), () -> x.law(1), () -> x.work(1), () -> x.book(1), () -> x.told(12),
            () -> x.back(0, 8), () -> x.council(0, 5), () -> x.would(0, 41, -1, 0, 10, 1000, 13, 401, 7),
            () -> x.ahead(100, 2), () -> x.roster(8), () -> x.gives(0, 8), () -> x.ease(8, -1), () -> x.fits(2),
            () -> x.look(2), () -> x.quorum(0, 2), () -> x.lies(13, 14, 17, 2), () -> x.kneel(100, 100, 3),
            () -> x.balm(0, 8, -1), () -> x.weariest(2), () -> x.heaviest(0, 2), () -> x.sure(0, 2),
            () -> x.rumour(0, 2), () -> x.lied(10, 2), () -> x.reign(0, 17, 0, 4), () -> x.span(0, 0, 17, 0, 3, 3)};
        for (int i = 0; i < arguments.length; i++) {
            noArgument("argument " + i, arguments[i]);
            due("counted argument " + i, x.status(1), i + 1);
        }
        due("counted elements stay", x.status(0), elements.length);
    }

    private static void promise41() {
        ThroneBacks x = courtOf(COURT);
        due("count 0", x.count(0), 0);
        due("count 1", x.count(1), 0);
        due("count 2", x.count(2), 0);
        x.image();
        work(x, "day;");
        work(x, "");
        x.image();
        x.image();
        x.feed(0, 0, 0, 0, 0);
        due("count 0: images", x.count(0), 3);
        due("count 1: bytes", x.count(1), 20);
        due("count 2: works", x.count(2), 2);
        due("count 3", x.count(3), -1);
        due("count -1", x.count(-1), -1);
        x.restore();
        x.undo();
        due("count 0: images left", x.count(0), 2);
        due("count 2: works left", x.count(2), 1);
    }
}
