/** Promise 5: work, its text, and how it is done. */
final class WorkSentences extends PromiseTest {
    static void tell() {
        text();
        steps();
        signs();
        order();
        bounds();
        promise5();
        promise5Full();
    }

    private static void fault(String text, int kind, int place) {
        fault(COURT, text, kind, place);
    }

    private static void fault(String court, String text, int kind, int place) {
        ThroneBacks x = courtOf(court);
        due(text, work(x, text), kind - 10);
        due("the place in " + text, x.fault(), place);
        due("no work, " + text, x.count(2) + x.told(3), 0);
    }

    private static void text() {
        sentence(5, "WORK is a text of up to 150 bytes", () -> {
            ThroneBacks x = courtOf(COURT);
            due("150", work(x, " ".repeat(146) + "day;"), 1);
            due("150 of steps", work(x, "day;".repeat(37) + "  "), 37);
            put(x, "day;".repeat(40));
            noArgument("151", () -> x.work(151));
            due("148", x.work(148), 37);
        });
        sentence(5, "{ STEP \";\" }", () -> {
            ThroneBacks x = courtOf(COURT);
            due("none", work(x, ""), 0);
            due("none is a work, too", x.count(2), 1);
            due("one", work(x, "day;"), 1);
            due("two", work(x, "day;day;"), 2);
            fault("day", 1, 3);
            fault("day day;", 1, 4);
            fault(";", 1, 0);
            fault("day;;", 1, 4);
            fault("day,", 1, 3);
            fault("day;]", 1, 4);
        });
        sentence(5, "STEP: \"sit\" B C, \"tell\" B B", () -> {
            fault("sat 0 0;", 1, 0);
            fault("sits 0 0;", 1, 0);
            fault("tells 0 0;", 1, 0);
            fault("5", 1, 0);
            fault("king 1;", 1, 0);
            fault("sit 3 0;", 2, 4);
            fault("sit 0 3;", 2, 6);
            fault("sit 0;", 1, 5);
            fault("sit", 1, 3);
            fault("sit 0 0 0;", 1, 8);
            fault("tell 3 0;", 2, 5);
            fault("tell 0 3;", 2, 7);
            fault("tell 0;", 1, 6);
            fault("", "sit 0 0;", 2, 4);
            fault("back 1 1;", "sit 0 0;", 2, 6);
            fault("council 1 1;", "tell 0 0;", 2, 5);
            due("the last of each", work(courtOf(COURT), "sit 2 2;sit 1 2;tell 1 0;"), 3);
        });
    }

    private static void steps() {
        sentence(5, "\"hold\" N (0 to 40)", () -> {
            fault("hold 41;", 2, 5);
            fault("hold;", 1, 4);
            fault("hold -1;", 1, 5);
            ThroneBacks x = courtOf("king 40;");
            due("40", work(x, "hold 40;") * 100 + x.told(4), 140);
            due("0", work(x, "hold 0;") * 100 + x.told(4), 100);
            due("40 is no fault for a lighter king", work(courtOf(COURT), "hold 40;"), 0);
        });
        sentence(5, "\"rest\" B, \"day\"", () -> {
            fault("rest 3;", 2, 5);
            fault("rest;", 1, 4);
            fault("", "rest 0;", 2, 5);
            fault("day 1;", 1, 4);
            fault("days;", 1, 0);
            fault("da;", 1, 0);
        });
        sentence(5, "or \"again\" N \"[\" { STEP \";\" } \"]\" (N 0 to 40)", () -> {
            ThroneBacks x = courtOf(COURT);
            due("0 times", work(x, "again 0[day;];"), 0);
            due("once", work(x, "again 1[day;];"), 1);
            due("40 times", work(x, "again 40[day;];"), 40);
            due("no steps", work(x, "again 40[];day;"), 1);
            due("in one another", work(x, "again 2[again 3[day;];again 2[again 2[day;];];];"), 14);
            due("0 times, with more inside", work(x, "again 0[again 40[day;];day;];day;"), 1);
            fault("again 41[];", 2, 6);
            fault("again [];", 1, 6);
            fault("again 1;", 1, 7);
            fault("again 1(day;);", 1, 7);
            fault("again 1[day];", 1, 11);
            fault("again 1[;];", 1, 8);
            fault("again 1[day;", 1, 12);
            fault("again 1[day;]", 1, 13);
            fault("again 1[day;] day;", 1, 14);
            fault("again 1[day;]];", 1, 13);
            fault("again 0[dey;];", 1, 8);
            fault("again 0[sit 3 0;];", 2, 12);
        });
    }

    private static void signs() {
        sentence(5, "Numbers: digits, as many as stand there", () -> {
            due("noughts ahead", work(courtOf(COURT), "again 0000000000000000000000002[day;];"), 2);
            fault("sit 00;", 1, 6);
            fault("hold 4294967296;", 2, 5);
        });
        sentence(5, "WORDS: small letters, as many as stand there", () -> {
            due("a number close by", work(courtOf(COURT), "again3[hold5;hold6;];"), 6);
            fault("daynight;", 1, 0);
            fault("Day;", 1, 0);
        });
        sentence(5, "blanks (32) may stand ahead of all these, and at the end", () -> {
            due("everywhere", work(courtOf(COURT), "  again  2  [  hold  3  ;  sit  1  1  ;  ]  ;  "), 3);
            due("blanks alone", work(courtOf(COURT), "   "), 0);
            fault("day\t;", 1, 3);
        });
    }

    private static void order() {
        sentence(5, "STEPS are done in order", () -> {
            ThroneBacks x = courtOf(COURT);
            work(x, "hold 16;sit 1 0;hold 0;sit 0 0;");
            due("held up, then not", x.back(1, 2) * 100 + x.back(0, 2), 521);
            work(x, "again 2[sit 1 1;rest 1;];");
            due("again and again", x.back(1, 2), ((5 + 8) / 2 + 8) / 2);
        });
        sentence(5, "one that can't be done is REFUSED, and changes nothing", () -> {
            ThroneBacks x = courtOf(COURT);
            work(x, "sit 0 0;sit 2 2;hold 3;");
            String ahead = stateOf(x);
            String[] steps = {"sit 2 0;", "tell 0 0;", "tell 0 2;", "tell 2 0;", "tell 1 0;", "hold 3;", "hold 17;", "rest 1;"};
            for (String step : steps) {
                due(step, work(x, step), 0);
                due("refused, " + step, x.told(10), 1);
                same("state behind " + step, stateOf(x), ahead);
            }
            due("the next is done", work(x, "rest 1;hold 4;rest 1;day;") * 10 + x.told(10), 22);
            due("and told", x.told(4) * 10 + x.told(3), 41);
        });
    }

    private static void bounds() {
        sentence(5, "200 STEPS at most are begun by one WORK", () -> {
            ThroneBacks y = courtOf(COURT);
            due("200, all done", work(y, "again 40[day;day;day;day;];again 37[day;];hold 1;") * 10 + y.told(4), 1981);
            ThroneBacks z = courtOf(COURT);
            due("201, the last left out", work(z, "again 40[day;day;day;day;];again 38[day;];hold 1;") * 10 + z.told(4), 1980);
            due("anew for the next work", work(z, "again 40[day;day;day;day;];") * 1000 + z.told(3), 160358);
        });
        sentence(5, "(an again, too, each time it is come to", () -> {
            ThroneBacks x = courtOf(COURT);
            due("itself", work(x, "again 40[day;day;day;day;day;];"), 199);
            ThroneBacks y = courtOf(COURT);
            due("each time, of 0, of none", work(y, "again 40[again 0[day;];again 9[];again 0[];again 0[];day;];"), 39);
            due("the last of the forty lacks its day", y.told(3) * 1000 + y.told(10), 39000);
            ThroneBacks z = courtOf(COURT);
            due("not each of its turns", work(z, "again 40[day;];again 40[day;];again 40[day;];again 40[day;];again 35[day;];"), 195);
            ThroneBacks w = courtOf(COURT);
            String six = "again 40[".repeat(6) + "day;" + "];".repeat(6);
            due("six open", work(w, six), 190);
            due("none is open in the next work", work(w, "again 2[day;];" + six.replace("40", "1")), 3);
        });
        sentence(5, "REFUSED ones, too)", () -> {
            ThroneBacks x = courtOf(COURT);
            due("done", work(x, "again 40[hold 0;hold 0;hold 0;hold 0;day;];"), 39);
            due("refused", x.told(10), 160);
        });
        sentence(5, "what would come behind is left out", () -> {
            ThroneBacks x = courtOf(COURT);
            due("done", work(x, "again 40[again 40[hold 0;];];hold 9;"), 0);
            due("refused are only those that were begun", x.told(10), 194);
            due("not held", x.told(4), 0);
            due("an again behind", work(x, "again 40[day;day;day;day;day;];again 1[hold 5;];"), 199);
            due("not held by it", x.told(4) + x.told(10), 0);
            due("the next is whole", work(x, "again 2[day;];hold 9;") * 10 + x.told(4), 39);
        });
    }

    private static void promise5() {
        sentence(5, "Likewise WORK (n to 150), which is done", () -> {
            ThroneBacks x = courtOf(COURT);
            put(x, "day;day;dey;" + " ".repeat(148));
            for (int n : new int[] {-1, 151, 160, 161, Integer.MIN_VALUE, Integer.MAX_VALUE}) {
                noArgument("n " + n, () -> x.work(n));
                due("the tape stays", x.count(1), 160);
            }
            due("nothing is done", x.told(3) + x.count(2), 0);
            due("the first 8", x.work(8) * 10 + x.told(3), 22);
            put(x, "days;");
            due("a word is cut", x.work(3) * 10 + x.fault(), -87);
            put(x, "hold 12;");
            due("a number is cut", x.work(6) * 10 + x.fault(), -84);
            due("empty then", x.count(1), 0);
            noArgument("1 of none", () -> x.work(1));
        });
        sentence(5, "how many STEPS were done (agains not counted, nor REFUSED ones)", () -> {
            ThroneBacks x = courtOf(COURT);
            due("days, holds", work(x, " day ; again 3 [ day;hold 3 ; ] ;"), 5);
            due("refused", x.told(10), 2);
            due("agains alone", work(x, "again 3[again 2[];];again 0[day;];"), 0);
            due("one who falls sat all the same", work(x, "sit 2 2;"), 1);
            due("refused alone", work(x, "sit 2 2;hold 3;"), 0);
        });
        sentence(5, "or the FAULT less 10 (none is)", () -> {
            ThroneBacks x = courtOf(COURT);
            work(x, "sit 0 0;hold 2;hold 2;");
            String ahead = allOf(x);
            due("1", work(x, "day;hold 4;dey;"), -9);
            same("behind 1", allOf(x), ahead);
            due("2", work(x, "day;hold 4;sit 0 3;"), -8);
            same("behind 2", allOf(x), ahead);
            due("3", work(x, "day;" + "again 1[".repeat(7) + "day;" + "];".repeat(7)), -7);
            same("behind 3", allOf(x), ahead);
            due("empty then", x.count(1), 0);
        });
    }

    private static ThroneBacks fullOfWorks() {
        ThroneBacks x = courtOf(COURT);
        for (int i = 0; i < 15; i++) {
            due("work " + i, work(x, "day;"), 1);
        }
        due("the 16th", work(x, "hold 0;sit 0 0;"), 1);
        return x;
    }

    private static void promise5Full() {
        sentence(5, "-20 ahead of that (nothing is read, there is no FAULT, the TAPE is empty then)", () -> {
            ThroneBacks x = fullOfWorks();
            String ahead = allOf(x);
            due("a right text", work(x, "day;"), -20);
            same("nothing is done", allOf(x), ahead);
            law(x, "1+");
            due("a wrong text", work(x, "dey;"), -20);
            due("no fault", x.fault(), -1);
            due("empty then", x.count(1), 0);
            due("no text", x.work(0), -20);
            put(x, "day;");
            noArgument("n beyond the tape", () -> x.work(21));
            noArgument("n below 0", () -> x.work(-1));
            due("the tape stays", x.count(1), 20);
        });
        sentence(5, "16 WORKS are there that were not undone.", () -> {
            ThroneBacks x = fullOfWorks();
            due("16", x.count(2) * 100 + work(x, "day;"), 1580);
            due("one undone", x.undo(), 15);
            due("15, a faulty one is none", work(x, "dey;"), -9);
            due("15", work(x, "day;day;"), 2);
            due("16 again", work(x, "day;"), -20);
            x.image();
            for (int i = 15; i >= 0; i--) {
                due("undone", x.undo(), i);
            }
            due("none is there", work(x, ""), 0);
            x.restore();
            due("16 by an image", work(x, "day;"), -20);
            court(x, COURT);
            due("none in a new court", work(x, "day;"), 1);
        });
    }
}
