/** Promises 7 and 8: faults, and work undone. */
final class FaultSentences extends PromiseTest {
    static void tell() {
        faults();
        tooMany();
        promise7();
        promise8();
    }

    private static void fault(String text, long answer, ThroneBacks x, int kind, int place) {
        due(text, answer, kind - 10);
        due("the place in " + text, x.fault(), place);
    }

    private static void court(String text, int kind, int place) {
        ThroneBacks x = new ThroneBacks();
        fault(text, court(x, text), x, kind, place);
    }

    private static void law(String text, int kind, int place) {
        ThroneBacks x = new ThroneBacks();
        fault(text, law(x, text), x, kind, place);
    }

    private static void work(String text, int kind, int place) {
        ThroneBacks x = courtOf(COURT);
        fault(text, work(x, text), x, kind, place);
    }

    private static void book(String text, int kind, int place) {
        ThroneBacks x = courtOf(COURT);
        fault(text, book(x, text), x, kind, place);
    }

    private static void faults() {
        sentence(7, "FAULTS, the first from the left, at its first byte", () -> {
            court("king 041;quoen", 2, 5);
            court("quoen 41;king 41;", 1, 0);
            court("   back   100   10;", 2, 10);
            court("back 1   10;back 1 1", 2, 9);
            court("back 1 1;  kingly 1;", 1, 11);
            law("1000+days", 2, 0);
            law("days+1000", 1, 0);
            law("1+  days", 1, 4);
            work("sit 3 3;dey", 2, 4);
            work("sit 0 33;dey", 2, 6);
            work("day;dey;sit 3 3;", 1, 4);
            book("0 1000;0 1", 2, 2);
            book("0 1;0 1000;", 2, 4);
            book("0 1 ;  33 1", 2, 7);
        });
        sentence(7, "1 what can't stand there (at the length, if the text ends too early)", () -> {
            court("king", 1, 4);
            court("king   ", 1, 7);
            court("back 1", 1, 6);
            court("back 1 1", 1, 8);
            court("back 1 1  ", 1, 10);
            court("king )", 1, 5);
            law("", 1, 0);
            law("    ", 1, 4);
            law("held+", 1, 5);
            law("least[1,1", 1, 9);
            law("(held  ", 1, 7);
            law("held+;", 1, 5);
            work("sit 0", 1, 5);
            work("again 2[day;  ", 1, 14);
            work("again 2", 1, 7);
            work("sit 0 ;", 1, 6);
            book("0", 1, 1);
            book("0 1  ", 1, 5);
            book("0 ;", 1, 2);
        });
        sentence(7, "2 a number that is none such (a B twice in a BOOK)", () -> {
            court("back 0 0;", 2, 5);
            court("back 1 10;", 2, 7);
            court("council 1 10;", 2, 10);
            court("king 41;", 2, 5);
            law("1000", 2, 0);
            work("sit 3 0;", 2, 4);
            work("tell 0 3;", 2, 7);
            work("rest 7;", 2, 5);
            work("hold 41;", 2, 5);
            work("again 41[];", 2, 6);
            book("3 0;", 2, 0);
            book("0 1000;", 2, 2);
            book("1 0;0 0;1 0;", 2, 8);
        });
    }

    private static void tooMany() {
        sentence(7, "3 a CLAUSE, BACK or COUNCIL too many (at its word)", () -> {
            court("king 1;".repeat(60) + "  king 1;", 3, 422);
            court("back 1 0;".repeat(7) + " back 1 0;", 3, 64);
            court("council 1 0;".repeat(12) + "   council 1 0;", 3, 147);
            court("back 1 0;".repeat(7) + "back 0 0;", 3, 63);
            court("king 1;".repeat(60) + "king 41;", 3, 420);
            court("king 1;".repeat(53) + "back 1 0;".repeat(8), 3, 434);
        });
        sentence(7, "or a 7th of ( least most again that is open at one time", () -> {
            due("six (", law(new ThroneBacks(), "((((((1))))))"), 1);
            law("(((((((1)))))))", 3, 6);
            due("six of all", law(new ThroneBacks(), "(least[most[(least[(1),2]),2],2])"), 1);
            law("((((((least[1,1]))))))", 3, 6);
            law("((((((  most[1,1]))))))", 3, 8);
            law("((((((most", 3, 6);
            law("most[most[most[most[most[most[(1", 3, 30);
            law("least[1,least[1,least[1,least[1,least[1,least[1, (1", 3, 49);
            due("not at one time", law(new ThroneBacks(), "((((((1))))))+((((((1))))))+least[1,((((((1)))))"), -7);
            due("one behind the other", law(new ThroneBacks(), "(1)+(1)+(1)+(1)+(1)+(1)+(1)+least[1,1]+most[1,1]"), 1);
            String six = "again 1[".repeat(6);
            due("six agains", work(courtOf(COURT), six + "day;" + "];".repeat(6)), 1);
            work(six + "again 1[", 3, 48);
            work(six + "day; again 99[", 3, 53);
            due("agains one behind the other", work(courtOf(COURT), "again 1[];".repeat(9)), 0);
        });
        sentence(7, "of one the least", () -> {
            court("king 1;".repeat(60) + "kings 1;", 1, 420);
            court("king 1;".repeat(60) + "5", 1, 420);
            court("king 1;".repeat(60) + ";", 1, 420);
            court("back 1 0;".repeat(7) + "backs 1 0;", 1, 63);
            law("((((((1(", 1, 7);
            law("((((((leasts[", 1, 6);
            law("(((((([", 1, 6);
            work("again 1[".repeat(6) + "agains 1[", 1, 48);
            work("again 1[".repeat(6) + "day again 1[", 1, 52);
        });
    }

    private static void promise7() {
        sentence(7, "The place of the FAULT of the latest text", () -> {
            ThroneBacks x = courtOf(COURT);
            law(x, "1+");
            due("of a law", x.fault() * 10 + x.fault(), 22);
            court(x, "king 1;k");
            due("of a court", x.fault(), 7);
            book(x, "0 0 ");
            due("of a book", x.fault(), 4);
            work(x, "day;");
            work(x, "day;dey;");
            due("of a work", x.fault(), 4);
            noArgument("no text", () -> x.law(99));
            x.undo();
            x.image();
            x.restore();
            x.feed(0, 0, 0, 0, 0);
            noArgument("no text, with bytes", () -> x.court(21));
            due("stays till the next text", x.fault(), 4);
        });
        sentence(7, "NONE without.", () -> {
            ThroneBacks x = new ThroneBacks();
            due("ahead of any", x.fault(), -1);
            law(x, "(");
            court(x, COURT);
            due("by a court", x.fault(), -1);
            law(x, "(");
            law(x, "1");
            due("by a law", x.fault(), -1);
            law(x, "(");
            work(x, "hold 0;");
            due("by a work", x.fault(), -1);
            law(x, "(");
            book(x, "");
            due("by a book", x.fault(), -1);
        });
    }

    private static void promise8() {
        sentence(8, "The latest WORK that was done is undone", () -> {
            ThroneBacks x = courtOf(COURT);
            work(x, "sit 0 0;hold 2;day;tell 0 1;");
            String first = stateOf(x);
            work(x, "sit 2 0;sit 1 2;tell 1 0;sit 1 0;hold 9;rest 0;hold 9;day;");
            law(x, "5");
            book(x, "0 0;");
            work(x, "dey;");
            due("refused ahead of it", x.told(10), 1);
            due("undone", x.undo(), 1);
            same("as ahead of it", stateOf(x), first);
            due("none refused", x.told(10), 0);
            due("law and book stay", x.load(0, 0) * 10 + x.told(9), 51);
            due("the first", x.undo(), 0);
            same("as at first", stateOf(x), stateOf(courtOf(COURT)));
            ThroneBacks y = courtOf("back 99 9;".repeat(7) + "council 4 9;".repeat(12) + "king 1;");
            work(y, "sit 0 11;tell 0 6;");
            work(y, "sit 6 11;");
            due("known of itself ahead of it", y.hearing(6, 11), 0);
            due("by hearing behind it", y.undo() * 10 + y.hearing(6, 11), 11);
        });
        sentence(8, "how many are left", () -> {
            ThroneBacks x = courtOf(COURT);
            for (int i = 1; i <= 16; i++) {
                work(x, i % 2 == 0 ? "day;" : "");
            }
            for (int i = 15; i >= 0; i--) {
                due("undo", x.undo() * 100 + x.told(3), i * 100 + i / 2);
                due("they are so many", x.count(2), i);
            }
        });
        sentence(8, "-1: there is none.", () -> {
            ThroneBacks x = new ThroneBacks();
            due("in a new one", x.undo(), -1);
            court(x, COURT);
            String fresh = allOf(x);
            due("in a new court", x.undo(), -1);
            work(x, "day;");
            x.undo();
            due("all are undone", x.undo() * 10 + x.undo(), -11);
            work(x, "dey;");
            due("a faulty one was not done", x.undo(), -1);
            same("nothing is changed", allOf(x), fresh);
            due("it counts from none on", x.count(2) * 10 + work(x, "day;"), 1);
        });
    }
}
