/** Promise 4: a law, and its text. */
final class LawSentences extends PromiseTest {
    static void tell() {
        text();
        sums();
        things();
        thingsNow();
        brackets();
        values();
        signs();
        promise4();
    }

    /** By a would of 40, 2, 3, 4, 5, 600, 7, 300, 6. */
    private static void value(String text, int want) {
        ThroneBacks x = new ThroneBacks();
        due(text, law(x, text), 1);
        due("load by " + text, x.would(40, 2, 3, 4, 5, 600, 7, 300, 6), want);
    }

    private static void fault(String text, int kind, int place) {
        ThroneBacks x = courtOf(COURT);
        law(x, "9");
        due(text, law(x, text), kind - 10);
        due("the place in " + text, x.fault(), place);
        due("the law stays, " + text, x.load(0, 0), 9);
    }

    private static void text() {
        sentence(4, "A LAW is a text of up to 150 bytes", () -> {
            value(" ".repeat(149) + "7", 7);
            value("0" + "+1".repeat(36) + "-1".repeat(36) + "+9  ", 9);
            ThroneBacks x = new ThroneBacks();
            put(x, "7" + " ".repeat(159));
            noArgument("151", () -> x.law(151));
            due("150", x.law(150), 1);
        });
        sentence(4, "E, at the end nothing more", () -> {
            fault("", 1, 0);
            fault("   ", 1, 3);
            fault("7 7", 1, 2);
            fault("7;", 1, 1);
            fault("7)", 1, 1);
            fault("7]", 1, 1);
            fault("7,7", 1, 1);
            fault("held lie", 1, 5);
            fault("7\u0000", 1, 1);
        });
        sentence(4, "without: weight - held + lie", () -> {
            ThroneBacks x = courtOf(COURT);
            due("in a court", x.load(0, 0), 16 + 5);
            work(x, "hold 7;");
            due("held up", x.load(1, 2), 16 - 7 + 9);
            due("in none", new ThroneBacks().would(40, 2, 3, 4, 5, 600, 7, 300, 6), 41);
            due("0 at least", new ThroneBacks().would(1, 40, 9, 9, 9, 999, 12, 400, 6), 0);
        });
        sentence(4, "LOAD: what comes out, 0 at least, 60 at most", () -> {
            value("59", 59);
            value("60", 60);
            value("61", 60);
            value("999*999", 60);
            value("0", 0);
            value("0-1", 0);
            value("0-999*999", 0);
            value("held-1", 1);
            value("held-2", 0);
            value("held-3", 0);
        });
    }

    private static void sums() {
        sentence(4, "E: T { + or - T }", () -> {
            value("60-20-10", 30);
            value("9-4+2", 7);
            value("1+2+3+4", 10);
            fault("+1", 1, 0);
            fault("-1", 1, 0);
            fault("1+", 1, 2);
            fault("1- ", 1, 3);
            fault("1+-1", 1, 2);
        });
        sentence(4, "T: U { * or / or % U }", () -> {
            value("60/4*3", 45);
            value("17%7*2", 6);
            value("60/4/3", 5);
            value("2*9%7", 4);
            value("2+3*4", 14);
            value("20-12/4-3%2", 16);
            fault("*2", 1, 0);
            fault("/2", 1, 0);
            fault("%2", 1, 0);
            fault("2*", 1, 2);
            fault("2/+1", 1, 2);
            fault("2%", 1, 2);
        });
        sentence(4, "U: N (0 to 999)", () -> {
            value("0", 0);
            value("999-940", 59);
            fault("1000", 2, 0);
            fault("1+ 1000)", 2, 3);
            fault("4294967296", 2, 0);
            fault("1.5", 1, 1);
        });
    }

    private static void things() {
        sentence(4, "U: N (0 to 999), \"weight\" (W), \"held\" (by how much the king holds himself up by now)", () -> {
            value("weight", 40);
            value("held", 2);
            fault("weights", 1, 0);
            fault("king", 1, 0);
            fault("hold", 1, 0);
            ThroneBacks x = courtOf(COURT);
            law(x, "weight");
            due("W", x.load(0, 0), 16);
            law(x, "held");
            due("held ahead", x.load(0, 0), 0);
            work(x, "hold 16;");
            due("held by now", x.load(0, 0), 16);
            work(x, "hold 3;");
            due("held by now, less", x.load(0, 0), 3);
        });
        sentence(4, "\"lie\" (L), \"hours\" (H), \"care\" (C)", () -> {
            value("lie", 3);
            value("hours", 4);
            value("care", 5);
            fault("lies", 1, 0);
            fault("hour", 1, 0);
            fault("cares", 1, 0);
            ThroneBacks x = courtOf(COURT);
            law(x, "lie");
            due("L", x.load(0, 2) * 100 + x.load(2, 1), 901);
            law(x, "hours");
            due("H", x.load(0, 2) * 100 + x.load(2, 1), 802);
            law(x, "care");
            due("C", x.load(1, 0) * 100 + x.load(0, 2), 805);
        });
    }

    private static void thingsNow() {
        sentence(4, "\"tired\" (the BACK by now)", () -> {
            value("tired/100", 6);
            ThroneBacks x = courtOf(COURT);
            work(x, "sit 0 1;");
            law(x, "tired");
            due("by now", x.load(0, 0), 8);
            due("another", x.load(1, 0), 0);
            work(x, "rest 0;");
            due("by now, rested", x.load(0, 0), 4);
        });
        sentence(4, "\"knows\" (how many COUNCILS it KNOWS by now)", () -> {
            value("knows", 7);
            ThroneBacks x = courtOf("back 99 9;back 99 9;council 1 9;council 1 9;council 1 9;king 1;");
            law(x, "knows");
            due("none", x.load(0, 0), 0);
            work(x, "sit 0 0;sit 0 2;sit 0 2;");
            due("of itself", x.load(0, 0), 2);
            work(x, "sit 1 1;tell 0 1;");
            due("by hearing, too", x.load(1, 0), 3);
        });
        sentence(4, "\"day\", \"back\" (its number)", () -> {
            value("day/100", 3);
            value("back", 6);
            fault("days", 1, 0);
            fault("backs", 1, 0);
            ThroneBacks x = courtOf(COURT);
            law(x, "day");
            due("day 0", x.load(0, 0), 0);
            work(x, "day;day;");
            due("day 2", x.load(0, 0), 2);
            law(x, "back");
            due("its number", x.load(2, 0) * 100 + x.load(0, 0), 200);
        });
    }

    private static void brackets() {
        sentence(4, "\"least\" \"[\" E \",\" E \"]\"", () -> {
            value("least[3,5]", 3);
            value("least[5,3]", 3);
            value("least[4,4]", 4);
            value("least[2+9,2*9]+1", 12);
            value("least[0-5,3]+10", 5);
            fault("least", 1, 5);
            fault("least(3,5)", 1, 5);
            fault("least[", 1, 6);
            fault("least[,5]", 1, 6);
            fault("least[3]", 1, 7);
            fault("least[3,]", 1, 8);
            fault("least[3,5", 1, 9);
            fault("least[3,5)", 1, 9);
            fault("least[3,5,7]", 1, 9);
        });
        sentence(4, "\"most\" \"[\" E \",\" E \"]\"", () -> {
            value("most[3,5]", 5);
            value("most[5,3]", 5);
            value("most[2+9,2*9]+1", 19);
            value("most[0-5,0-3]+10", 7);
            fault("most 5", 1, 5);
            fault("most(5,6)", 1, 4);
            fault("most[5;6]", 1, 6);
        });
        sentence(4, "or \"(\" E \")\"", () -> {
            value("60-(20-10)/(3*2)", 59);
            value("(((7)))", 7);
            fault("()", 1, 1);
            fault("(1", 1, 2);
            fault("(1]", 1, 2);
            fault("(1 2)", 1, 3);
        });
    }

    private static void values() {
        sentence(4, "Values are whole numbers of 32 bits that wrap", () -> {
            // 999 to the power of 4 wraps to -426,416,671.
            value("0-999*999*999*999/999/999/10", 42);
            // 512 times 512 times 512 times 16 wraps to the least number, one less than it to the greatest.
            value("(512*512*512*16)/512/512/512+20", 4);
            value("(512*512*512*16-1)/512/512/512", 15);
            value("(512*512*512*16-1+1)/512/512/512+20", 4);
            value("(0-512*512*512*16)/(0-1)/512/512/512+20", 4);
            value("(0-512*512*512*16)%(0-1)+11", 11);
        });
        sentence(4, "/ cuts", () -> {
            value("7/2", 3);
            value("(0-7)/2+10", 7);
            value("7/(0-2)+10", 7);
            value("(0-7)/(0-2)+10", 13);
        });
        sentence(4, "% leaves (with the sign of what is divided)", () -> {
            value("7%4", 3);
            value("(0-7)%4+10", 7);
            value("7%(0-4)+10", 13);
            value("(0-7)%(0-4)+10", 7);
        });
        sentence(4, "by 0 both are 0", () -> {
            value("5/0+7", 7);
            value("5%0+7", 7);
            value("lie/(held-2)+7", 7);
            value("lie%(held-2)+7", 7);
            value("0/0+0%0", 0);
        });
    }

    private static void signs() {
        sentence(4, "Numbers: digits, as many as stand there", () -> {
            value("00000000000000000007", 7);
            fault("1 2", 1, 2);
            fault("2lie", 1, 1);
        });
        sentence(4, "WORDS: small letters, as many as stand there", () -> {
            fault("weightlie", 1, 0);
            fault("lie2", 1, 3);
            fault("Weight", 1, 0);
            fault("weighT", 1, 0);
        });
        sentence(4, "blanks (32) may stand ahead of all these, and at the end", () -> {
            value("  least  [  3  ,  ( weight -  40 )  *  2  +  1  ]  %  5  ", 1);
            fault("1 +\t1", 1, 3);
            fault("held  +   ", 1, 10);
        });
    }

    private static void promise4() {
        sentence(4, "Likewise the LAW (n to 150): 1.", () -> {
            ThroneBacks x = courtOf(COURT);
            work(x, "sit 0 0;hold 3;hold 3;");
            book(x, "0 21;");
            x.image();
            String ahead = stateOf(x);
            put(x, "7+9+1000");
            due("the first 3", x.law(3), 1);
            due("its load", x.load(0, 0), 16);
            due("empty then", x.count(1), 0);
            same("the state stays", stateOf(x), ahead);
            due("book, refused, images and works stay", x.told(9) * 1000 + x.told(10) * 100 + x.count(0) * 10 + x.count(2), 1111);
            due("a fault less 10", law(x, "7+1000"), -8);
            due("all stays", x.load(0, 0), 16);
            due("empty behind a fault", x.count(1), 0);
            put(x, "heldlie");
            due("the first 3, of a word", x.law(3) * 10 + x.fault(), -90);
            put(x, "heldlie");
            due("the first 4, a word", x.law(4), 1);
            put(x, "71");
            due("the first digit", x.law(1) * 10 + x.load(0, 0), 17);
            due("no law of no bytes", x.law(0) * 100 + x.fault(), -900);
        });
        sentence(4, "Likewise the LAW (n to 150)", () -> {
            ThroneBacks x = courtOf(COURT);
            put(x, "7" + " ".repeat(159));
            for (int n : new int[] {-1, 151, 160, 161, Integer.MIN_VALUE, Integer.MAX_VALUE}) {
                noArgument("n " + n, () -> x.law(n));
                due("the tape stays", x.count(1), 160);
            }
            due("the law stays", x.load(0, 0), 21);
            due("150", x.law(150) * 10 + x.load(0, 0), 17);
            noArgument("1 of none", () -> x.law(1));
        });
    }
}
