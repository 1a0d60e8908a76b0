/** Promise 6: the book, and its text. */
final class BookSentences extends PromiseTest {
    static void tell() {
        text();
        signs();
        promise6();
    }

    private static void fault(String text, int kind, int place) {
        ThroneBacks x = courtOf(COURT);
        book(x, "1 7;");
        due(text, book(x, text), kind - 10);
        due("the place in " + text, x.fault(), place);
        due("the book stays, " + text, x.told(9), 1);
    }

    private static void text() {
        sentence(6, "A BOOK is one of up to 60 bytes", () -> {
            ThroneBacks x = courtOf("back 1 1;".repeat(7));
            due("60", book(x, " ".repeat(56) + "0 5;"), 1);
            due("60 of lines", book(x, "0 999;1 999;2 999;3 999;4 999;5 999;00000000006 00000000999;"), 7);
            put(x, "0 5;" + " ".repeat(76));
            noArgument("61", () -> x.book(61));
            due("60 of 80", x.book(60), 1);
        });
        sentence(6, "{ B T \";\" }", () -> {
            ThroneBacks x = courtOf(COURT);
            due("none", book(x, ""), 0);
            due("one", book(x, "2 8;"), 1);
            due("all, in any order", book(x, "2 8;0 1;1 2;"), 3);
            fault("0", 1, 1);
            fault("0;", 1, 1);
            fault("0 1", 1, 3);
            fault("0 1 1;", 1, 4);
            fault("0 1,", 1, 3);
            fault(";", 1, 0);
            fault("0 1;;", 1, 4);
            fault("back 0;", 1, 0);
            fault("0 x;", 1, 2);
        });
        sentence(6, "no B twice", () -> {
            fault("0 1;0 1;", 2, 4);
            fault("0 1;2 2; 00 3;", 2, 9);
            fault("2 1;1 1;2 1000;", 2, 8);
            ThroneBacks x = courtOf(COURT);
            due("one book", book(x, "0 1;"), 1);
            due("another book", book(x, "0 1;"), 1);
            due("another behind a faulty one", book(x, "1 1;1 1;") * 10 + book(x, "1 1;"), -79);
        });
        sentence(6, "BACK B is TIRED T (0 to 999)", () -> {
            fault("3 0;", 2, 0);
            fault("0 1000;", 2, 2);
            fault("0 4294967296;", 2, 2);
            fault("0 -1;", 1, 2);
            ThroneBacks x = courtOf(COURT);
            due("the last back, 999", book(x, "2 999;"), 1);
            due("it fits none", x.fits(0), 0);
            due("0", book(x, "2 0;"), 1);
            due("it fits those of others", x.fits(0), 6);
            due("no backs", book(new ThroneBacks(), "0 0;"), -8);
            due("no back 1", book(courtOf("back 1 1;"), "1 0;"), -8);
        });
    }

    private static void signs() {
        sentence(6, "Numbers: digits, as many as stand there", () -> {
            ThroneBacks x = courtOf(COURT);
            due("noughts ahead", book(x, "00000000000000000000000 0000000000000000000000;"), 1);
            fault("00;", 1, 2);
            fault("01;", 1, 2);
        });
        sentence(6, "blanks (32) may stand ahead of all these, and at the end", () -> {
            ThroneBacks x = courtOf(COURT);
            due("everywhere", book(x, "  1  2  ;  0  3  ;  "), 2);
            due("blanks alone", book(x, "   "), 0);
            fault("0\t1;", 1, 1);
            fault("0  ", 1, 3);
        });
    }

    private static void promise6() {
        sentence(6, "Likewise the BOOK (n to 60): how many lines.", () -> {
            ThroneBacks x = courtOf(COURT);
            work(x, "sit 0 0;hold 3;hold 3;");
            x.image();
            String ahead = stateOf(x);
            put(x, "0 1;1 2;0 3;");
            due("the first 8", x.book(8) * 10 + x.told(9), 22);
            due("empty then", x.count(1), 0);
            same("the state stays", stateOf(x), ahead);
            due("refused, images and works stay", x.told(10) * 100 + x.count(0) * 10 + x.count(2), 111);
            due("a fault less 10", book(x, "0 1;1"), -9);
            due("the book stays", x.told(9), 2);
            due("empty behind a fault", x.count(1), 0);
            put(x, "0 12;");
            due("a number is cut", x.book(3) * 10 + x.fault(), -87);
            put(x, "0 1;");
            due("none of 20", x.book(0) * 10 + x.told(9), 0);
            due("empty behind none", x.count(1), 0);
        });
        sentence(6, "Likewise the BOOK (n to 60)", () -> {
            ThroneBacks x = courtOf(COURT);
            book(x, "1 1;2 2;");
            put(x, "0 5;" + " ".repeat(76));
            for (int n : new int[] {-1, 61, 80, 81, Integer.MIN_VALUE, Integer.MAX_VALUE}) {
                noArgument("n " + n, () -> x.book(n));
                due("the tape stays", x.count(1), 80);
            }
            due("the book stays", x.told(9), 2);
            due("60", x.book(60), 1);
            noArgument("1 of none", () -> x.book(1));
        });
    }
}
