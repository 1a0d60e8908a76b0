/** Promise 5: what each step does, and when it is refused. */
final class StepSentences extends PromiseTest {
    /** Burdens 21, 8, 44. */
    private static final String STEPS = "back 21 5;back 99 4;back 10 9;council 4 5;council 2 1;council 8 6;king 16;";
    private static final String FOUR = "back 99 9;back 99 9;back 99 9;back 1 9;council 4 9;council 4 9;council 4 9;king 1;";

    static void tell() {
        sit();
        sitAndKnow();
        told();
        toldRefused();
        hold();
        rest();
        day();
    }

    private static void refused(ThroneBacks x, String step) {
        String ahead = stateOf(x);
        due(step, work(x, step), 0);
        due("refused, " + step, x.told(10), 1);
        same("state behind " + step, stateOf(x), ahead);
    }

    private static void sit() {
        sentence(5, "sit: BACK B is more TIRED by BURDEN of C, as it is ahead of it", () -> {
            ThroneBacks x = courtOf(STEPS);
            work(x, "sit 1 0;sit 1 1;");
            due("by 21, by 8", x.back(1, 2), 29);
            law(x, "tired+4");
            work(x, "sit 1 0;");
            due("as tired as ahead of it", x.back(1, 2), 29 + 33);
            ThroneBacks y = courtOf(FOUR);
            law(y, "knows*4+4");
            work(y, "sit 0 0;sit 0 1;");
            due("by what it knew ahead of it", y.back(0, 2), 4 + 8);
        });
        sentence(5, "is it TIRED more than its STRENGTH then, it FELL", () -> {
            ThroneBacks x = courtOf("back 21 5;back 20 5;back 22 5;council 4 5;king 16;");
            work(x, "sit 0 0;sit 1 0;sit 2 0;");
            due("as tired as strong is not more", x.back(0, 3), 0);
            due("one more", x.back(1, 3), 1);
            due("one less", x.back(2, 3), 0);
            ThroneBacks y = courtOf("back 10 0;council 8 0;council 1 0;king 20;");
            work(y, "sit 0 0;rest 0;hold 20;");
            due("it stands, too tired", y.back(0, 3) * 100 + y.back(0, 2), 20);
            due("falls by a burden of 0", work(y, "sit 0 1;") * 100 + y.back(0, 3) * 10 + y.burden(0, 1), 110);
        });
        sentence(5, "(it lies then, till it rests)", () -> {
            ThroneBacks x = courtOf(STEPS);
            work(x, "sit 2 0;");
            due("it lies", x.told(5), 4);
            work(x, "again 9[day;];hold 3;sit 1 2;");
            due("it lies, though not tired any more", x.told(5) * 100 + x.back(2, 2), 400);
            ThroneBacks y = courtOf(STEPS);
            work(y, "sit 2 0;rest 2;");
            due("it rested", y.told(5), 0);
        });
        sentence(5, "C was BORNE once more, by B", () -> {
            ThroneBacks x = courtOf(STEPS);
            work(x, "sit 0 0;sit 2 0;sit 1 0;sit 1 2;sit 1 2;");
            due("council 0, by one who fell, too", x.council(0, 2) * 100 + x.council(0, 4), 307);
            due("council 1, never", x.council(1, 2) * 100 + x.council(1, 4), 0);
            due("council 2, twice by one", x.council(2, 2) * 100 + x.council(2, 4), 202);
            due("how often back 1 bore", x.back(1, 5) * 100 + x.back(1, 6), 305);
        });
        sentence(5, "(REFUSED, if B fell)", () -> {
            ThroneBacks x = courtOf(STEPS);
            work(x, "sit 2 0;");
            refused(x, "sit 2 0;");
            law(x, "0");
            refused(x, "sit 2 1;");
            due("rested, it sits", work(x, "rest 2;rest 2;sit 2 0;"), 3);
        });
    }

    private static void sitAndKnow() {
        sentence(5, "and KNOWS nothing more by it", () -> {
            ThroneBacks x = courtOf("back 25 9;back 99 9;council 4 5;council 4 9;king 16;");
            work(x, "sit 0 0;");
            due("it knows 0", x.back(0, 4), 1);
            work(x, "sit 0 1;");
            due("it fell, and knows 0 alone", x.back(0, 3) * 10 + x.back(0, 4), 11);
            ThroneBacks y = courtOf("back 99 9;back 20 0;council 9 9;king 10;");
            work(y, "hold 9;sit 0 0;tell 0 1;hold 0;sit 1 0;");
            due("by hearing, as ahead of it", y.back(1, 3) * 10 + y.hearing(1, 0), 11);
            ThroneBacks z = courtOf("back 99 9;back 20 9;council 9 9;king 10;");
            work(z, "hold 9;sit 0 0;tell 0 1;hold 0;sit 1 0;");
            due("by hearing, though it would feel it", z.back(1, 3) * 10 + z.hearing(1, 0), 11);
        });
        sentence(5, "else, if LIE and CARE are 10 or more together, it KNOWS C, of itself", () -> {
            ThroneBacks x = courtOf("back 99 4;back 99 9;back 99 0;council 1 5;council 1 6;council 1 0;council 1 1;council 1 9;king 1;");
            work(x, "sit 0 0;sit 0 1;sit 1 2;sit 1 3;sit 2 4;sit 1 4;");
            due("4 and 5", x.hearing(0, 0), -1);
            due("4 and 6", x.hearing(0, 1), 0);
            due("9 and 0", x.hearing(1, 2), -1);
            due("9 and 1", x.hearing(1, 3), 0);
            due("0 and 9", x.hearing(2, 4), -1);
            due("9 and 9", x.hearing(1, 4), 0);
        });
        sentence(5, "(did it KNOW C by HEARING ahead of it, it does so of itself from now on)", () -> {
            ThroneBacks x = courtOf("back 99 9;back 99 9;back 99 0;council 1 1;king 4;");
            work(x, "sit 0 0;tell 0 1;tell 0 2;");
            due("by hearing", x.hearing(1, 0) * 10 + x.hearing(2, 0), 11);
            work(x, "sit 1 0;sit 2 0;");
            due("of itself", x.hearing(1, 0), 0);
            due("felt nothing, so by hearing", x.hearing(2, 0), 1);
            work(x, "sit 1 0;");
            due("of itself still", x.hearing(1, 0), 0);
        });
    }

    private static void told() {
        sentence(5, "tell: the two are BACKS, the one who tells first", () -> {
            ThroneBacks x = courtOf(FOUR);
            work(x, "sit 1 0;");
            due("the first tells", work(x, "tell 1 0;") * 10 + x.back(0, 4), 11);
            refused(x, "tell 2 1;");
            due("nobody told back 2", x.back(2, 4), 0);
        });
        sentence(5, "the other one KNOWS what the first one KNOWS, too", () -> {
            ThroneBacks x = courtOf(FOUR);
            work(x, "sit 0 0;sit 0 2;sit 1 1;tell 0 1;");
            due("all of it, and its own", x.back(1, 4), 7);
            due("the first one no more", x.back(0, 4), 5);
        });
        sentence(5, "what it did not KNOW it has by HEARING: one more than the first one has it by", () -> {
            ThroneBacks x = courtOf(FOUR);
            work(x, "sit 0 0;sit 2 0;sit 1 1;tell 0 1;tell 1 2;");
            due("by 1", x.hearing(1, 0), 1);
            due("what it knew stays of itself", x.hearing(2, 0), 0);
            due("what it did not know", x.hearing(2, 1), 1);
            work(x, "sit 2 2;tell 2 0;");
            due("by 2", x.hearing(0, 1), 2);
            due("of another by 1", x.hearing(0, 2), 1);
        });
        sentence(5, "(of itself: 0; 9 at most)", () -> {
            // Each back hears a council once at most, so 7 backs have it by 6 at most.
            ThroneBacks x = courtOf("back 99 9;".repeat(7) + "council 1 9;king 4;");
            work(x, "sit 0 0;tell 0 1;tell 1 2;tell 2 3;tell 3 4;tell 4 5;tell 5 6;");
            for (int back = 0; back < 7; back++) {
                due("hearing " + back, x.hearing(back, 0), back);
            }
        });
    }

    private static void toldRefused() {
        sentence(5, "(REFUSED, if both are one, one of them fell", () -> {
            ThroneBacks x = courtOf("back 30 9;back 99 9;back 1 9;council 4 9;council 9 9;king 16;");
            work(x, "sit 0 0;");
            refused(x, "tell 0 0;");
            work(x, "sit 2 0;");
            refused(x, "tell 0 2;");
            work(x, "sit 0 1;");
            due("back 0 lies, and knows", x.back(0, 3) * 10 + x.back(0, 4), 11);
            refused(x, "tell 0 1;");
            refused(x, "tell 0 2;");
            due("rested, it tells", work(x, "rest 0;tell 0 1;"), 2);
            due("rested, it is told", work(x, "rest 2;tell 1 2;") * 10 + x.hearing(2, 0), 22);
        });
        sentence(5, "or there is nothing the other one does not KNOW)", () -> {
            ThroneBacks x = courtOf(FOUR);
            refused(x, "tell 0 1;");
            work(x, "sit 0 0;tell 0 1;");
            refused(x, "tell 0 1;");
            refused(x, "tell 1 0;");
            work(x, "sit 1 1;");
            refused(x, "tell 0 1;");
            due("one thing more", work(x, "tell 1 0;"), 1);
        });
    }

    private static void hold() {
        sentence(5, "hold: the king holds himself up by N", () -> {
            ThroneBacks x = courtOf(STEPS);
            due("5", work(x, "hold 5;") * 100 + x.told(4), 105);
            due("less", work(x, "hold 2;") * 100 + x.told(4), 102);
            due("not at all", work(x, "hold 0;") * 100 + x.told(4), 100);
            work(x, "hold 7;day;day;sit 0 0;");
            due("till he does otherwise", x.told(4) * 100 + x.back(0, 2), 714);
        });
        sentence(5, "(REFUSED, if he does, or N is more than W)", () -> {
            ThroneBacks x = courtOf(STEPS);
            refused(x, "hold 0;");
            refused(x, "hold 17;");
            due("his weight", work(x, "hold 16;") * 100 + x.told(4), 116);
            refused(x, "hold 16;");
            refused(x, "hold 17;");
            refused(x, "hold 40;");
            due("then less", work(x, "hold 15;"), 1);
        });
    }

    private static void rest() {
        sentence(5, "rest: a BACK is half (cut) as TIRED", () -> {
            ThroneBacks x = courtOf(STEPS);
            work(x, "sit 0 0;sit 1 1;rest 0;");
            due("21, cut", x.back(0, 2), 10);
            due("another stays", x.back(1, 2), 8);
            work(x, "rest 0;rest 0;rest 0;");
            due("1, cut", x.back(0, 2) * 10 + work(x, "rest 0;"), 11);
            due("0", x.back(0, 2), 0);
        });
        sentence(5, "and stands again, if it fell", () -> {
            ThroneBacks x = courtOf(STEPS);
            work(x, "sit 2 2;sit 0 2;rest 2;");
            due("though still too tired", x.back(2, 3) * 100 + x.back(2, 2), 22);
            due("another lies on", x.told(5), 1);
        });
        sentence(5, "(REFUSED, if it is not TIRED at all)", () -> {
            ThroneBacks x = courtOf(STEPS);
            refused(x, "rest 0;");
            work(x, "sit 2 0;again 2[day;];");
            due("it lies, and is not tired at all", x.back(2, 3) * 10 + x.back(2, 2), 10);
            refused(x, "rest 2;");
        });
    }

    private static void day() {
        sentence(5, "day (REFUSED from DAY 400 on)", () -> {
            ThroneBacks x = courtOf(STEPS);
            work(x, "again 40[day;day;day;day;];");
            work(x, "again 40[day;day;day;day;];");
            due("up to 399", work(x, "again 39[day;day;];day;") * 1000 + x.told(3), 79399);
            due("the 400th", work(x, "sit 1 0;day;day;day;") * 1000 + x.told(3), 2400);
            due("refused", x.told(10), 2);
            refused(x, "day;");
            due("others are done", work(x, "sit 1 0;hold 1;"), 2);
        });
        sentence(5, "each BACK is less TIRED by 5 and its CARE, 0 at least", () -> {
            ThroneBacks x = courtOf("back 99 0;back 99 9;back 99 4;back 99 5;council 1 0;");
            law(x, "36");
            work(x, "sit 0 0;sit 1 0;sit 2 0;sit 3 0;day;");
            due("care 0", x.back(0, 2), 4);
            due("care 9", x.back(1, 2), 0);
            due("care 4, just", x.back(2, 2), 0);
            due("care 5, 0 at least", x.back(3, 2), 0);
            work(x, "sit 3 0;sit 3 0;day;");
            due("0 is no debt", x.back(3, 2) * 10 + x.back(0, 2), 80);
        });
        sentence(5, "the DAY is one more", () -> {
            ThroneBacks x = courtOf(STEPS);
            work(x, "day;");
            due("1", x.told(3), 1);
            work(x, "day;day;");
            due("3", x.told(3), 3);
        });
        sentence(5, "(who fell stays so)", () -> {
            ThroneBacks x = courtOf(STEPS);
            work(x, "sit 2 0;day;");
            due("tired by less than its strength", x.back(2, 7), 3);
            due("it lies", x.back(2, 3), 1);
            work(x, "again 5[day;];");
            due("not tired", x.back(2, 2) * 10 + x.back(2, 3), 1);
        });
    }
}
