/** Promise 3: a court, and its text. */
final class CourtSentences extends PromiseTest {
    static void tell() {
        text();
        backs();
        councils();
        king();
        signs();
        promise3();
        promise3Refused();
    }

    private static void fault(String text, int kind, int place) {
        ThroneBacks x = courtOf(COURT);
        due(text, court(x, text), kind - 10);
        due("the place in " + text, x.fault(), place);
        due("the king stays, " + text, x.told(2), 16);
    }

    private static void king(String text, int weight) {
        ThroneBacks x = courtOf(COURT);
        due(text, court(x, text), 0);
        due("the king of " + text, x.told(2), weight);
    }

    private static void text() {
        sentence(3, "A COURT is a text of up to 600 bytes", () -> {
            king(" ".repeat(593) + "king 7;", 7);
            fault(" ".repeat(593) + "king 7 ", 1, 600);
            ThroneBacks x = new ThroneBacks();
            put(x, " ".repeat(600));
            noArgument("601", () -> x.court(601));
            due("600", x.court(600), 0);
        });
        sentence(3, "{ CLAUSE \";\" }", () -> {
            due("none at all", court(courtOf(COURT), ""), 0);
            king("king 3;", 3);
            king("king 3;king 4;", 4);
            fault("king 3", 1, 6);
            fault("king 3 king 4;", 1, 7);
            fault("king 3,", 1, 6);
            fault(";", 1, 0);
            fault("king 3;;", 1, 7);
        });
        sentence(3, "at most 60", () -> {
            king("king 1;".repeat(59) + "king 9;", 9);
            fault("king 1;".repeat(60) + "king 9;", 3, 420);
            fault("king 1;".repeat(60) + "  back 9 9;", 3, 422);
            String most = "back 1 0;".repeat(7) + "council 1 0;".repeat(12) + "king 1;".repeat(41);
            ThroneBacks x = courtOf(most);
            due("60 of all kinds", x.told(0) * 100 + x.told(1), 712);
            fault(most + "king 1;", 3, 494);
            fault(most + "council 1 1;", 3, 494);
        });
    }

    private static void backs() {
        sentence(3, "\"back\" S C", () -> {
            ThroneBacks x = courtOf("back 30 5;");
            due("strength", x.back(0, 0), 30);
            due("care", x.back(0, 1), 5);
            fault("back;", 1, 4);
            fault("back 30;", 1, 7);
            fault("back 30 5 1;", 1, 10);
            fault("back -1 0;", 1, 5);
            fault("back 30 ", 1, 8);
        });
        sentence(3, "(BACKS, numbered from 0 on", () -> {
            ThroneBacks x = courtOf("back 11 1;king 1;council 1 1;back 22 2;");
            due("the first", x.back(0, 0) * 10 + x.back(0, 1), 111);
            due("the next", x.back(1, 0) * 10 + x.back(1, 1), 222);
            noElement("no third", () -> x.back(2, 0));
            noElement("none below 0", () -> x.back(-1, 0));
        });
        sentence(3, "7 at most", () -> {
            due("7", courtOf("back 1 0;".repeat(7)).told(0), 7);
            fault("back 1 0;".repeat(8), 3, 63);
            fault("back 1 0;".repeat(7) + "king 2; back 0", 3, 71);
            fault("back 1 0;".repeat(7) + "back", 3, 63);
        });
        sentence(3, "STRENGTH S, 1 to 99", () -> {
            fault("back 0 0;", 2, 5);
            due("1", courtOf("back 1 0;").back(0, 0), 1);
            due("99", courtOf("back 99 0;").back(0, 0), 99);
            fault("back 100 0;", 2, 5);
        });
        sentence(3, "CARE C, 0 to 9)", () -> {
            due("0", courtOf("back 1 0;").back(0, 1), 0);
            due("9", courtOf("back 1 9;").back(0, 1), 9);
            fault("back 1 10;", 2, 7);
        });
    }

    private static void councils() {
        sentence(3, "\"council\" H L", () -> {
            ThroneBacks x = courtOf("council 4 6;");
            due("hours", x.council(0, 0), 4);
            due("lie", x.council(0, 1), 6);
            fault("council;", 1, 7);
            fault("council 4;", 1, 9);
            fault("council 4 6 1;", 1, 12);
            fault("council 4 ", 1, 10);
        });
        sentence(3, "(COUNCILS likewise, 12", () -> {
            ThroneBacks x = courtOf("council 1 0;".repeat(5) + "council 2 3;back 1 1;" + "council 1 0;".repeat(5) + "council 4 5;");
            due("12", x.told(1), 12);
            due("the sixth", x.council(5, 0) * 10 + x.council(5, 1), 23);
            due("the last", x.council(11, 0) * 10 + x.council(11, 1), 45);
            noElement("no thirteenth", () -> x.council(12, 0));
            noElement("none below 0", () -> x.council(-1, 0));
            fault("council 1 0;".repeat(13), 3, 144);
            fault("council 1 0;".repeat(12) + "council", 3, 144);
        });
        sentence(3, "HOURS H, 1 to 9", () -> {
            fault("council 0 0;", 2, 8);
            due("1", courtOf("council 1 0;").council(0, 0), 1);
            due("9", courtOf("council 9 0;").council(0, 0), 9);
            fault("council 10 0;", 2, 8);
        });
        sentence(3, "LIE L, 0 to 9)", () -> {
            due("0", courtOf("council 1 0;").council(0, 1), 0);
            due("9", courtOf("council 1 9;").council(0, 1), 9);
            fault("council 1 10;", 2, 10);
        });
    }

    private static void king() {
        sentence(3, "CLAUSE: \"back\" S C", () -> {
            fault("queen 1;", 1, 0);
            fault("backs 1 1;", 1, 0);
            fault("councils 1 1;", 1, 0);
            fault("day;", 1, 0);
            fault("5", 1, 0);
        });
        sentence(3, "or \"king\" W", () -> {
            king("king 5;", 5);
            fault("king;", 1, 4);
            fault("king ", 1, 5);
            fault("king 5 5;", 1, 7);
        });
        sentence(3, "(WEIGHT W, 1 to 40", () -> {
            fault("king 0;", 2, 5);
            king("king 1;", 1);
            king("king 40;", 40);
            fault("king 41;", 2, 5);
        });
        sentence(3, "20 without", () -> {
            king("", 20);
            ThroneBacks x = courtOf(COURT);
            due("behind a court with one", court(x, "back 1 1;council 4 0;") * 100 + x.told(2), 120);
            due("load", x.load(0, 0), 20);
        });
        sentence(3, "the last counts)", () -> {
            king("king 5;king 9;", 9);
            king("king 9;council 1 1;king 5;council 1 1;", 5);
        });
    }

    private static void signs() {
        sentence(3, "Numbers: digits, as many as stand there", () -> {
            king("king 00000000000000000000040;", 40);
            fault("king 4 0;", 1, 7);
            fault("king 4294967297;", 2, 5);
            fault("king 18446744073709551617;", 2, 5);
            fault("king 99999999999999999999999999999999;", 2, 5);
            fault("king 4x;", 1, 6);
            fault("king 4/;", 1, 6);
            fault("king 4:;", 1, 6);
        });
        sentence(3, "WORDS: small letters, as many as stand there", () -> {
            king("king8;", 8);
            fault("kingk 1;", 1, 0);
            fault("kin 1;", 1, 0);
            fault("xing 1;", 1, 0);
            fault("kinx 1;", 1, 0);
            fault("kink 1;", 1, 0);
            fault("ling 1;", 1, 0);
            fault("k ing 1;", 1, 0);
            fault("King 1;", 1, 0);
            fault("kinG 1;", 1, 0);
            fault("kingG 1;", 1, 4);
            fault("king`1;", 1, 4);
            fault("king{1;", 1, 4);
            fault("kingz1;", 1, 0);
            fault("kinga1;", 1, 0);
        });
        sentence(3, "blanks (32) may stand ahead of all these, and at the end", () -> {
            ThroneBacks x = courtOf("   back   12   3   ;   king  7  ;   ");
            due("back", x.back(0, 0) * 10 + x.back(0, 1), 123);
            due("king", x.told(2), 7);
            due("blanks alone", court(x, "     "), 0);
            fault("king\t1;", 1, 4);
            fault("king 1;\n", 1, 7);
            fault("king 1;\u0000", 1, 7);
            fault("king 1;\u00a0", 1, 7);
        });
    }

    private static void promise3() {
        sentence(3, "The first n bytes of the TAPE (empty then) are the COURT", () -> {
            ThroneBacks x = new ThroneBacks();
            put(x, "king 3;king 9;");
            due("7 of 20", x.court(7), 0);
            due("the first king", x.told(2), 3);
            due("empty then", x.count(1), 0);
            put(x, "king 3;king 99;");
            due("empty behind a fault", x.court(15) * 100 + x.count(1), -800);
            due("nothing of it is left", court(x, "king 5;") * 100 + x.told(2), 5);
            put(x, "king 41;");
            due("a word is cut", x.court(3) * 10 + x.fault(), -90);
            put(x, "king 41;");
            due("a number is cut", x.court(6) * 10 + x.fault(), -84);
            put(x, "king 41;");
            due("none of 20", x.court(0) * 100 + x.count(1), 0);
            due("no king then", x.told(2), 20);
        });
        sentence(3, "(no LAW, BOOK, IMAGES, nothing to undo)", () -> {
            ThroneBacks x = courtOf(COURT);
            String fresh = allOf(x);
            law(x, "7");
            book(x, "0 3;");
            x.image();
            work(x, "sit 0 0;sit 2 2;hold 3;hold 3;day;tell 0 1;sit 0 2;");
            x.image();
            due("the same court", court(x, COURT), 3);
            same("all", allOf(x), fresh);
            due("no law", x.load(0, 0), 21);
            due("no book", x.told(9), 0);
            due("no images", x.count(0) * 10 + x.restore(), -1);
            due("nothing to undo", x.count(2) * 10 + x.undo(), -1);
            due("none refused", x.told(10), 0);
        });
        sentence(3, "how many BACKS", () -> {
            for (int backs = 0; backs <= 7; backs++) {
                due(backs + " backs", court(new ThroneBacks(), "council 1 1;" + "back 1 0;".repeat(backs)), backs);
            }
        });
    }

    private static void promise3Refused() {
        sentence(3, "or the FAULT less 10 (all stays)", () -> {
            ThroneBacks x = courtOf(COURT);
            law(x, "7+lie");
            book(x, "0 3;");
            x.image();
            work(x, "sit 0 0;sit 2 2;hold 3;hold 3;day;tell 0 1;");
            String ahead = allOf(x);
            due("1", court(x, "back 5 5;king 9;kong"), -9);
            same("behind 1", allOf(x), ahead);
            due("2", court(x, "back 5 5;king 9;council 9 10;"), -8);
            same("behind 2", allOf(x), ahead);
            due("3", court(x, "king 9;" + "back 5 5;".repeat(8)), -7);
            same("behind 3", allOf(x), ahead);
            due("the image is still there", x.restore() * 10 + x.told(7), 0);
            due("no refusal", x.status(0) + x.status(1), 0);
        });
        sentence(3, "IllegalArgumentException: n is not 0 to the TAPE's bytes (it stays).", () -> {
            ThroneBacks x = courtOf(COURT);
            law(x, "7+");
            noArgument("1 of none", () -> x.court(1));
            put(x, "king 3;             ");
            String ahead = allOf(x);
            for (int n : new int[] {-1, 21, 600, 601, Integer.MIN_VALUE, Integer.MAX_VALUE}) {
                noArgument("n " + n, () -> x.court(n));
                due("it stays", x.count(1), 20);
            }
            same("all stays", allOf(x), ahead);
            due("the fault stays", x.fault(), 2);
            due("20 of 20", x.court(20) * 100 + x.told(2), 3);
            due("0 of none", Checks.outcome(() -> x.court(0)) * 100 + x.told(2), 20);
        });
    }
}
