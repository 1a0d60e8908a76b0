/** Promises 16, 17, 31 and 33: days ahead, and who could bear what. */
final class AheadSentences extends PromiseTest {
    private static final String DAYS = "again 40[day;day;day;day;];";

    static void tell() {
        promise16();
        promise17();
        promise31();
        promise31Then();
        promise33();
    }

    private static ThroneBacks onDay400(String court) {
        ThroneBacks x = courtOf(court);
        work(x, DAYS);
        work(x, DAYS);
        work(x, DAYS);
        due("the day", x.told(3), 400);
        return x;
    }

    private static void promise16() {
        sentence(16, "In n DAYS (0 to 99), nothing else being done", () -> {
            ThroneBacks x = courtOf(COURT);
            work(x, "sit 0 0;sit 1 2;sit 2 0;");
            due("now", x.ahead(0, 0), 92);
            due("in 99", x.ahead(99, 0) * 10 + x.ahead(99, 1), 7);
            for (int n : new int[] {-1, 100, Integer.MIN_VALUE, Integer.MAX_VALUE}) {
                noArgument("n " + n, () -> x.ahead(n, 0));
                noArgument("n " + n + ", bits", () -> x.ahead(n, 1));
            }
            due("nobody", new ThroneBacks().ahead(99, 0) + new ThroneBacks().ahead(0, 1), 0);
        });
        sentence(16, "0 how TIRED all are together", () -> {
            ThroneBacks x = courtOf(COURT);
            work(x, "sit 0 0;sit 1 2;sit 2 0;");
            int[] want = {92, 64, 36, 17, 1, 0, 0};
            for (int n = 0; n < want.length; n++) {
                due("in " + n, x.ahead(n, 0), want[n]);
            }
            ThroneBacks y = courtOf("back 99 0;council 9 0;");
            law(y, "60-day");
            work(y, "sit 0 0;");
            due("135 in 26", y.ahead(26, 0) * 10 + y.ahead(26, 1), 50);
            due("135 in 27", y.ahead(27, 0) * 10 + y.ahead(27, 1), 1);
        });
        sentence(16, "1 BACKS that are not TIRED (bits)", () -> {
            ThroneBacks x = courtOf(COURT);
            due("at first", x.ahead(0, 1), 7);
            work(x, "sit 0 0;sit 1 2;sit 2 0;");
            int[] want = {0, 0, 0, 1, 3, 7};
            for (int n = 0; n < want.length; n++) {
                due("in " + n, x.ahead(n, 1), want[n]);
            }
        });
        sentence(16, "DAYS go by as by day (beyond 400, too)", () -> {
            ThroneBacks x = onDay400(COURT);
            work(x, "sit 0 0;sit 1 2;sit 2 0;");
            due("beyond 400", x.ahead(1, 0) * 100 + x.ahead(3, 0), 6417);
            ThroneBacks y = courtOf(COURT);
            work(y, "sit 0 0;sit 1 2;sit 2 0;");
            int soon = y.ahead(3, 0);
            work(y, "day;day;day;");
            due("as by day, who lies, too", y.told(6), soon);
        });
    }

    private static void promise17() {
        sentence(17, "COULD of a BACK: COUNCILS by each of which alone, were it borne now, it would not fall", () -> {
            ThroneBacks x = courtOf("back 21 5;back 20 8;back 7 0;council 4 5;council 2 1;council 8 9;king 16;");
            due("as tired as strong", x.could(0), 3);
            due("one more is too much", x.could(1), 2);
            due("none", x.could(2), 0);
            work(x, "sit 0 1;");
            due("tired", x.could(0), 2);
            law(x, "day*60");
            due("now, not later", x.could(0), 7);
            law(x, "13-tired");
            due("as tired as now: 8 and 5, 8 and 2, 8 and 10", x.could(0), 7);
            ThroneBacks y = courtOf("back 10 0;council 8 0;king 20;");
            work(y, "sit 0 0;rest 0;");
            law(y, "0");
            due("it stands, too tired already", y.could(0), 0);
        });
        sentence(17, "(none, if it fell and lies)", () -> {
            ThroneBacks x = courtOf("back 21 5;council 4 5;council 8 9;king 16;");
            work(x, "sit 0 1;");
            law(x, "0");
            due("it lies", x.could(0), 0);
            work(x, "again 9[day;];");
            due("it lies, not tired", x.could(0) * 10 + x.back(0, 2), 0);
            ThroneBacks y = courtOf("back 21 5;council 4 5;council 8 9;king 16;");
            work(y, "sit 0 1;rest 0;rest 0;");
            law(y, "0");
            due("it rested", y.could(0), 3);
        });
        sentence(17, "COULD, as bits of COUNCILS.", () -> {
            ThroneBacks x = courtOf("back 1 0;" + "council 1 9;".repeat(11) + "council 1 0;");
            law(x, "8-lie");
            due("all but the last", x.could(0), 2047);
            law(x, "60");
            due("none", x.could(0), 0);
            law(x, "lie");
            due("the last", x.could(0), 2048);
            due("no councils", courtOf("back 1 0;").could(0), 0);
        });
    }

    private static void promise31() {
        sentence(31, "In how many DAYS (0 to 99), nothing else being done, a BACK could bear a COUNCIL and not fall", () -> {
            ThroneBacks x = courtOf("back 30 0;council 4 0;council 8 0;king 20;");
            due("now", x.ready(0, 0), 0);
            work(x, "sit 0 0;");
            due("in two, as tired as strong", x.ready(0, 0), 2);
            law(x, "129-day");
            due("in 99", x.ready(0, 0), 99);
            law(x, "130-day");
            due("not in 99", x.ready(0, 0), -1);
        });
        sentence(31, "none, if it fell); NONE.", () -> {
            ThroneBacks x = courtOf("back 30 0;council 4 0;council 8 0;king 20;");
            due("never", x.ready(0, 1), -1);
            work(x, "sit 0 1;");
            law(x, "0");
            due("it fell", x.ready(0, 0), -1);
            work(x, "rest 0;");
            due("it rested", x.ready(0, 0), 0);
        });
        sentence(31, "DAYS go by as by day (beyond 400, too)", () -> {
            ThroneBacks x = onDay400("back 30 0;council 4 0;king 20;");
            law(x, "435-day");
            due("day 405", x.ready(0, 0), 5);
            law(x, "529-day");
            due("day 499", x.ready(0, 0), 99);
            law(x, "530-day");
            due("day 500 is too late", x.ready(0, 0), -1);
            law(x, "20");
            work(x, "sit 0 0;");
            due("less tired beyond 400", x.ready(0, 0), 2);
        });
    }

    private static void promise31Then() {
        sentence(31, "(LOAD as it is then", () -> {
            ThroneBacks x = courtOf("back 30 0;council 4 0;council 8 0;king 20;");
            work(x, "sit 0 0;");
            law(x, "weight-day");
            due("by the day then, 10 and 36 is too much", x.ready(0, 1), 5);
            law(x, "tired*2");
            due("as tired as then", x.ready(0, 0), 2);
            law(x, "day%3*60");
            due("day 1 and 2 would not do", x.ready(0, 0), 0);
            law(x, "(1-day/7)*60");
            due("the first day that does", x.ready(0, 0), 7);
            work(x, "day;day;day;");
            due("days count on", x.ready(0, 0), 4);
        });
    }

    private static void promise33() {
        sentence(33, "BACKS (bits) that could bear a COUNCIL now and not fall", () -> {
            ThroneBacks x = courtOf("back 21 5;back 20 8;back 50 0;council 4 5;council 2 1;council 8 9;king 16;");
            due("as tired as strong, not one more", x.bearers(0), 5);
            due("all", x.bearers(1), 7);
            due("the strongest", x.bearers(2), 4);
            work(x, "sit 2 1;");
            due("none", x.bearers(2), 0);
            law(x, "day*40");
            due("now, not later", x.bearers(2), 7);
            due("nobody", courtOf("council 1 1;").bearers(0), 0);
            due("of seven", courtOf("back 1 1;back 99 1;".repeat(3) + "back 99 1;council 4 1;").bearers(0), 106);
        });
        sentence(33, "(none that fell and lies)", () -> {
            ThroneBacks x = courtOf("back 21 5;back 20 8;back 50 0;council 4 5;council 2 1;council 8 9;king 16;");
            work(x, "sit 1 2;");
            law(x, "0");
            due("back 1 lies", x.bearers(1), 5);
            work(x, "again 9[day;];");
            due("back 1 lies, not tired", x.bearers(1), 5);
            ThroneBacks y = courtOf("back 21 5;council 9 9;king 16;");
            work(y, "sit 0 0;rest 0;rest 0;");
            law(y, "0");
            due("it rested", y.bearers(0), 1);
        });
    }
}
