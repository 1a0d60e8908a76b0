/** Promises 28 to 30, 32, 34 and 35: who is weariest, what is heaviest, who could tell whom, what is known, what was a lie. */
final class CorridorSentences extends PromiseTest {
    private static final String FOUR = "back 99 9;back 99 9;back 99 9;back 1 9;council 4 1;council 4 2;council 4 3;king 1;";

    static void tell() {
        promise28();
        promise29();
        promise30();
        promise32();
        promise34();
        promise35();
    }

    private static void promise28() {
        sentence(28, "The BACK that is most TIRED (what 0), of alike ones the first, how TIRED (1)", () -> {
            ThroneBacks x = courtOf(COURT);
            due("none is tired, the first", x.weariest(0) * 100 + x.weariest(1), 0);
            work(x, "sit 1 0;sit 2 0;");
            due("the first of alike", x.weariest(0) * 100 + x.weariest(1), 121);
            work(x, "sit 0 2;");
            due("who lies, too", x.weariest(0) * 100 + x.weariest(1), 50);
            ThroneBacks y = courtOf("back 9 9;".repeat(7) + "council 1 1;");
            work(y, "sit 6 0;");
            due("the last", y.weariest(0) * 100 + y.weariest(1), 605);
            noArgument("what 2", () -> x.weariest(2));
            noArgument("what -1", () -> x.weariest(-1));
        });
        sentence(28, "NONE both: there are no BACKS.", () -> {
            ThroneBacks x = courtOf("council 1 1;");
            due("both", x.weariest(0) * 10 + x.weariest(1), -11);
        });
    }

    private static void promise29() {
        sentence(29, "The COUNCIL of most BURDEN on a BACK now (what 0), of alike ones the first, its BURDEN (1)", () -> {
            ThroneBacks x = courtOf(COURT);
            due("the most", x.heaviest(0, 0) * 100 + x.heaviest(0, 1), 250);
            law(x, "60-9*hours");
            due("another", x.heaviest(1, 0) * 100 + x.heaviest(1, 1), 24);
            law(x, "back*8/hours");
            due("the first of alike", x.heaviest(1, 0) * 100 + x.heaviest(1, 1), 2);
            due("all of 0", x.heaviest(0, 0) * 100 + x.heaviest(0, 1), 0);
            law(x, "20+day*hours");
            due("now, not later", x.heaviest(1, 0) * 100 + x.heaviest(1, 1), 240);
            work(x, "sit 2 2;");
            due("on one who lies", x.told(5) * 1000 + x.heaviest(2, 0) * 100 + x.heaviest(2, 1), 4240);
            noArgument("what 2", () -> x.heaviest(0, 2));
        });
        sentence(29, "NONE both: there are no COUNCILS.", () -> {
            ThroneBacks x = courtOf("back 1 1;");
            due("both", x.heaviest(0, 0) * 10 + x.heaviest(0, 1), -11);
        });
    }

    private static void promise30() {
        sentence(30, "BACKS (bits) to whom a BACK could tell anything now.", () -> {
            ThroneBacks x = courtOf(FOUR);
            due("it knows nothing", x.listeners(0), 0);
            work(x, "sit 0 0;");
            due("all others", x.listeners(0), 14);
            due("of another", x.listeners(1), 0);
            law(x, "9");
            work(x, "sit 3 0;tell 0 1;");
            due("not who lies, not who knows it", x.listeners(0), 4);
            due("of who heard", x.listeners(1), 4);
            work(x, "sit 1 1;");
            due("of who knows more", x.listeners(1), 5);
            ThroneBacks y = courtOf("back 21 9;back 99 9;council 4 1;council 9 9;");
            work(y, "sit 0 0;");
            due("it stands", y.listeners(0), 2);
            work(y, "sit 0 1;");
            due("it lies", y.listeners(0), 0);
            work(y, "rest 0;");
            due("it rested", y.listeners(0), 2);
        });
    }

    private static void promise32() {
        sentence(32, "COUNCILS (bits) a BACK KNOWS of itself (what 0), by HEARING (1).", () -> {
            ThroneBacks x = courtOf(FOUR);
            due("none", x.sure(0, 0) * 10 + x.sure(0, 1), 0);
            work(x, "sit 0 0;sit 1 1;sit 1 2;tell 0 1;");
            due("both", x.sure(1, 0) * 10 + x.sure(1, 1), 61);
            due("of itself alone", x.sure(0, 0) * 10 + x.sure(0, 1), 10);
            work(x, "sit 1 0;tell 1 2;");
            due("of itself from now on", x.sure(1, 0) * 10 + x.sure(1, 1), 70);
            due("by hearing alone", x.sure(2, 0) * 10 + x.sure(2, 1), 7);
            noArgument("what 2", () -> x.sure(0, 2));
            noArgument("what -1", () -> x.sure(0, -1));
        });
    }

    private static void promise34() {
        sentence(34, "The BACK that KNOWS a COUNCIL by most HEARINGS (what 0), of alike ones the first, by how many (1)", () -> {
            ThroneBacks x = courtOf(FOUR);
            work(x, "sit 2 0;");
            due("of itself", x.rumour(0, 0) * 10 + x.rumour(0, 1), 20);
            work(x, "sit 0 0;");
            due("of itself, the first", x.rumour(0, 0) * 10 + x.rumour(0, 1), 0);
            work(x, "tell 2 3;tell 2 1;");
            due("the first of alike", x.rumour(0, 0) * 10 + x.rumour(0, 1), 11);
            ThroneBacks y = courtOf(FOUR);
            work(y, "sit 1 0;tell 1 3;tell 3 0;");
            due("by most", y.rumour(0, 0) * 10 + y.rumour(0, 1), 2);
            work(y, "tell 0 2;");
            due("by more", y.rumour(0, 0) * 10 + y.rumour(0, 1), 23);
            ThroneBacks w = courtOf(FOUR);
            work(w, "sit 1 0;tell 1 3;");
            law(w, "9");
            work(w, "sit 3 1;");
            due("who lies, too", w.told(5) * 100 + w.rumour(0, 0) * 10 + w.rumour(0, 1), 831);
            ThroneBacks z = courtOf("back 99 9;".repeat(7) + "council 1 1;".repeat(12));
            work(z, "sit 0 11;tell 0 6;");
            due("the last back, the last council", z.rumour(11, 0) * 10 + z.rumour(11, 1), 61);
            noArgument("what 2", () -> x.rumour(0, 2));
        });
        sentence(34, "NONE both: none KNOWS it.", () -> {
            ThroneBacks x = courtOf(FOUR);
            work(x, "sit 0 1;");
            due("both", x.rumour(0, 0) * 10 + x.rumour(0, 1), -11);
            ThroneBacks y = courtOf("council 1 1;");
            due("no backs", y.rumour(0, 0) * 10 + y.rumour(0, 1), -11);
        });
    }

    private static void promise35() {
        sentence(35, "COUNCILS (bits) with a LIE of n (0 to 9) or more that were BORNE (what 0), that were not (1).", () -> {
            ThroneBacks x = courtOf(COURT);
            due("none was borne", x.lied(0, 0) * 10 + x.lied(0, 1), 7);
            work(x, "sit 2 1;sit 1 2;sit 1 2;");
            int[][] want = {{0, 6, 1}, {1, 6, 1}, {2, 4, 1}, {5, 4, 1}, {6, 4, 0}, {9, 4, 0}};
            for (int[] row : want) {
                due("borne " + row[0], x.lied(row[0], 0), row[1]);
                due("not borne " + row[0], x.lied(row[0], 1), row[2]);
            }
            work(x, "sit 2 0;");
            due("by one who falls", x.told(5) * 10 + x.lied(0, 0), 67);
            for (int n : new int[] {-1, 10, Integer.MIN_VALUE, Integer.MAX_VALUE}) {
                noArgument("n " + n, () -> x.lied(n, 0));
                noArgument("n " + n + ", not borne", () -> x.lied(n, 1));
            }
            noArgument("what 2", () -> x.lied(0, 2));
            due("no councils", new ThroneBacks().lied(0, 1), 0);
        });
    }
}
