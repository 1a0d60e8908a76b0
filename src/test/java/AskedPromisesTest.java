/** Promises 16 to 35: what is asked, and changes nothing. */
public final class AskedPromisesTest extends PromiseTest {
    public static void main(String[] args) {
        promise16();
        promise17();
        promise18And19();
        promise18Edges();
        promise20();
        promise21();
        promise22And23();
        promise23Edges();
        promise24();
        promise25();
        promise26();
        promise27();
        promise28();
        promise29();
        promise30();
        promise31();
        promise32();
        promise33();
        promise34();
        promise35();
        Checks.finish();
    }

    private static void promise16() {
        ThroneBacks x = courtOf(COURT);
        work(x, "sit 0 0;sit 1 2;sit 2 0;");
        int[] together = {92, 64, 36, 17, 1, 0};
        int[] fresh = {0, 0, 0, 1, 3, 7};
        int[] days = {0, 1, 2, 3, 4, 5};
        for (int i = 0; i < days.length; i++) {
            due("ahead " + days[i], x.ahead(days[i], 0), together[i]);
            due("ahead " + days[i] + ", fresh", x.ahead(days[i], 1), fresh[i]);
        }
        due("ahead 99", x.ahead(99, 1), 7);
        due("ahead: the day stays", x.told(3), 0);
        due("ahead: all stay tired", x.told(6), 92);
        noArgument("ahead 100", () -> x.ahead(100, 0));
        noArgument("ahead -1", () -> x.ahead(-1, 0));
        noArgument("ahead, what 2", () -> x.ahead(1, 2));
        noArgument("ahead, what -1", () -> x.ahead(1, -1));
        due("ahead: nobody", new ThroneBacks().ahead(5, 1), 0);
    }

    private static void promise17() {
        ThroneBacks x = courtOf("back 21 5;back 20 8;back 7 0;council 4 5;council 2 1;council 8 9;king 16;");
        due("could: just", x.could(0), 3);
        due("could: just not", x.could(1), 2);
        due("could: none", x.could(2), 0);
        work(x, "sit 0 1;sit 2 1;");
        due("could: tired", x.could(0), 2);
        law(x, "0");
        due("could: who lies", x.could(2), 0);
        due("could: by the law", x.could(0), 7);
        noElement("could: no back", () -> x.could(3));
        noElement("could: no back below 0", () -> x.could(-1));
        ThroneBacks y = courtOf("back 10 0;council 8 0;king 20;");
        work(y, "sit 0 0;rest 0;");
        law(y, "0");
        due("could: stands, but too tired", y.could(0), 0);
    }

    private static void roster(ThroneBacks x, int bits, int want, int... gives) {
        due("roster " + bits, x.roster(bits), want);
        for (int council = 0; council < gives.length; council++) {
            due("gives " + council + " of " + bits, x.gives(council, bits), gives[council]);
        }
    }

    private static void promise18And19() {
        ThroneBacks x = courtOf(COURT);
        roster(x, 7, 79, 0, 0, 1);
        roster(x, 1, 21, 0, -1, -1);
        roster(x, 2, 8, -1, 0, -1);
        roster(x, 4, 50, -1, -1, 1);
        roster(x, 0, 0, -1, -1, -1);
        law(x, "weight-back*5");
        roster(x, 7, 6 + 3 + 22, 2, 2, 1);
        roster(x, 5, 6 + 22, 2, -1, 1);
        law(x, "weight-care");
        roster(x, 7, 16 + 8 + 4, 1, 1, 1);
        work(x, "sit 1 2;sit 1 2;sit 1 2;sit 1 2;");
        due("back 1 lies", x.told(5), 2);
        roster(x, 3, 16, 0, 0, -1);
        roster(x, 7, -1, -1, -1, -1);
        noArgument("roster: no council 3", () -> x.roster(8));
        noArgument("roster: bits below 0", () -> x.roster(-1));
        noArgument("gives: no council 3 in it", () -> x.gives(0, 9));
        noElement("gives: no council", () -> x.gives(3, 7));
        noElement("gives: no council below 0", () -> x.gives(-1, 7));
        noElement("gives: no council, ahead of bits", () -> x.gives(3, 8));
    }

    private static void promise18Edges() {
        ThroneBacks x = courtOf("back 99 9;back 99 9;" + "council 1 0;".repeat(12) + "king 4;");
        roster(x, 63, 6, 0, 0, 0, 0, 0, 0, -1);
        roster(x, 0xfc0, 6, -1, -1, -1, -1, -1, -1, 0);
        noArgument("roster: seven", () -> x.roster(127));
        noArgument("gives: seven", () -> x.gives(0, 127));
        ThroneBacks y = courtOf("back 10 0;back 12 0;back 9 0;council 4 6;council 4 5;council 4 4;council 4 7;king 1;");
        roster(y, 7, 18, 0, 1, 1);
        roster(y, 15, 26, 0, 1, 1, 2);
        ThroneBacks z = courtOf("back 5 0;back 20 0;council 4 0;council 4 0;king 20;");
        work(z, "sit 0 0;rest 0;");
        law(z, "0");
        due("roster: to one who is too tired none is given", z.roster(3), 0);
        due("roster: so the other one", z.gives(0, 3) * 10 + z.gives(1, 3), 11);
        ThroneBacks u = courtOf(COURT);
        due("gives: ahead of any roster", u.gives(2, 4), 1);
        due("gives: by other councils", u.gives(0, 1), 0);
        work(u, "sit 0 0;");
        law(u, "4+tired+day*50");
        due("roster: as tired as now", u.roster(1), 4);
        due("roster: as tired as now, given", u.gives(0, 1), 1);
        ThroneBacks w = new ThroneBacks();
        court(w, "council 1 1;");
        due("roster: without backs", w.roster(1), -1);
        due("roster: without backs, nothing", w.roster(0), 0);
        ThroneBacks v = courtOf("back 20 0;back 21 0;council 4 0;council 4 1;king 20;");
        law(v, "20+lie*back");
        roster(v, 3, 40, -1 + 2, 0);
        roster(v, 1, 20, 0, -1);
    }

    private static void promise20() {
        ThroneBacks x = courtOf("back 99 9;back 99 9;back 99 9;back 1 9;council 4 1;council 4 2;");
        due("word: none knows", x.word(0), -1);
        work(x, "sit 0 0;");
        due("word: three tellings", x.word(0), 3);
        work(x, "tell 0 2;");
        due("word: two tellings", x.word(0), 2);
        work(x, "sit 3 1;");
        due("word: who lies need not know", x.word(0), 1);
        work(x, "tell 2 1;");
        due("word: all know", x.word(0), 0);
        due("word: of the other", x.word(1), -1);
        ThroneBacks y = courtOf("back 21 9;back 99 9;council 4 1;council 9 9;");
        work(y, "sit 0 0;sit 0 1;");
        due("word: only who lies knows", y.word(0), -1);
        ThroneBacks z = courtOf("back 1 9;council 4 1;");
        work(z, "sit 0 0;");
        due("word: none stands", z.word(0), 0);
        court(z, "council 1 1;");
        due("word: no backs", z.word(0), 0);
        noElement("word: no council", () -> z.word(1));
        noElement("word: no council below 0", () -> z.word(-1));
    }

    private static void promise21() {
        ThroneBacks x = courtOf(COURT);
        int[] n = {0, 7, 8, 31, 32, 43, 44, 55, 56, 177, 178, 191, 192, 9_999};
        int[] want = {25, 25, 24, 22, 21, 21, 20, 20, 19, 11, 10, 10, 9, 9};
        for (int i = 0; i < n.length; i++) {
            due("ease of all by " + n[i], x.ease(7, n[i]), want[i]);
        }
        due("ease: none are told", x.ease(0, 5), 0);
        due("ease of one", x.ease(2, 0), 17);
        due("ease of one by 31", x.ease(2, 31), 2);
        due("ease of one by 32", x.ease(2, 32), 1);
        due("ease of one by all", x.ease(2, 9_999), 1);
        law(x, "0");
        work(x, "hold 9;");
        due("ease: whatever the law", x.ease(2, 0), 17);
        noArgument("ease: no council 3", () -> x.ease(8, 0));
        noArgument("ease: bits below 0", () -> x.ease(-1, 0));
        noArgument("ease: n below 0", () -> x.ease(1, -1));
        noArgument("ease: n beyond", () -> x.ease(1, 10_000));
        ThroneBacks y = courtOf("council 9 0;".repeat(12) + "king 40;");
        due("ease of twelve", y.ease(4095, 12 * 9 * 39), 1);
        due("ease of twelve to 0", y.ease(4095, 12 * 9 * 40), 0);
    }

    private static void promise22And23() {
        ThroneBacks x = courtOf(COURT);
        due("fits: all", x.fits(0), 9);
        due("fits: the first", x.fits(1), 0);
        due("look", x.look(0), 0);
        due("look: left", x.look(1), 6);
        book(x, "0 0;");
        due("fits: all but back 0's", x.fits(0), 6);
        due("fits: the first is back 1's", x.fits(1), 100);
        due("look: not back 0", x.look(0), 1);
        due("look: left, of 6", x.look(1), 3);
        book(x, "1 50;2 0;");
        due("fits: one", x.fits(0), 1);
        due("fits: that one", x.fits(1), 102);
        due("look: back 0", x.look(0), 0);
        due("look: one left", x.look(1), 1);
        book(x, "1 50;2 8;");
        due("fits: none", x.fits(0), 0);
        due("fits: no first", x.fits(1), -1);
        due("look: back 0, though none fits", x.look(0), 0);
        due("look: none left", x.look(1), 0);
        book(x, "0 0;1 0;2 0;");
        due("fits: nobody bore a thing", x.fits(0), 0);
        due("look: all are in lines", x.look(0), -1);
        due("look: all are in lines, left", x.look(1), -1);
        noArgument("fits, what 2", () -> x.fits(2));
        noArgument("fits, what -1", () -> x.fits(-1));
        noArgument("look, what 2", () -> x.look(2));
        noArgument("look, what -1", () -> x.look(-1));
    }

    private static void promise23Edges() {
        ThroneBacks x = courtOf("back 99 0;back 99 0;back 1 0;council 4 1;council 4 1;council 4 2;king 9;");
        work(x, "sit 2 0;");
        due("fits: who lies stays as it is", x.fits(0), 9);
        book(x, "0 0;1 0;");
        due("fits: only who lies", x.fits(0), 3);
        due("fits: the first of who lies", x.fits(1), 200);
        due("look: who lies", x.look(0), 2);
        due("look: who lies, left", x.look(1), 3);
        book(x, "2 10;");
        due("fits: all", x.fits(0), 9);
        due("look: first of alike", x.look(0), 0);
        due("look: left at the worst", x.look(1), 6);
        law(x, "(1-back)*4");
        book(x, "2 10;");
        due("look: back 0 tells more", x.look(0), 0);
        law(x, "back*lie*4");
        due("look: back 1 tells more", x.look(0) * 100 + x.look(1), 106);
        law(x, "back*(lie+most[lie-1,0])");
        book(x, "2 10;0 0;");
        due("look: how tired back 1 would be", x.look(0) * 100 + x.look(1), 106);
        ThroneBacks u = courtOf("back 99 0;back 9 0;council 9 0;council 9 1;council 4 1;king 9;");
        due("look: ahead of any fits", u.look(1), 3);
        law(u, "999");
        due("look: the heaviest of all", u.look(0) * 100 + u.look(1), 3);
        book(u, "0 135;");
        due("fits: the heaviest of all", u.fits(0) * 1000 + u.fits(1), 2000);
        due("look: two are left of it", u.look(0) * 100 + u.look(1), 102);
        law(u, "day*20+tired");
        book(u, "0 0;1 0;");
        due("fits: as it is now", u.fits(0), 6);
        ThroneBacks t = courtOf("back 99 0;council 9 0;council 9 1;council 4 1;king 9;");
        law(t, "999");
        due("look: alike ones of most burden", t.look(1), 2);
        ThroneBacks y = courtOf("back 99 0;council 4 1;council 4 1;council 4 2;king 9;");
        due("look: two alike councils", y.look(1), 2);
        ThroneBacks z = new ThroneBacks();
        court(z, "council 1 1;");
        due("fits: no backs", z.fits(0) * 10 + z.fits(1), -1);
        due("look: no backs", z.look(0) * 10 + z.look(1), -11);
        court(z, "back 1 1;");
        due("look: no councils", z.look(0) * 10 + z.look(1), 0);
    }

    private static void promise24() {
        ThroneBacks x = courtOf(COURT);
        int[][] want = {{1, 7, 3}, {10, 7, 3}, {11, 6, 2}, {40, 5, 2}, {60, 4, 1}, {61, 3, 2}, {100, 1, 1}, {101, 0, 0}};
        for (int[] row : want) {
            due("quorum " + row[0], x.quorum(row[0], 0), row[1]);
            due("quorum " + row[0] + ", lean", x.quorum(row[0], 1), row[2]);
        }
        work(x, "sit 1 2;sit 1 2;");
        due("quorum: without who lies", x.quorum(10, 0), 3);
        due("quorum: without who lies, lean", x.quorum(10, 1), 2);
        noArgument("quorum 0", () -> x.quorum(0, 0));
        noArgument("quorum 694", () -> x.quorum(694, 0));
        noArgument("quorum, what 2", () -> x.quorum(1, 2));
        noArgument("quorum, what -1", () -> x.quorum(1, -1));
        ThroneBacks y = courtOf("back 99 0;".repeat(7));
        due("quorum of all", y.quorum(693, 0) * 10 + y.quorum(693, 1), 11);
        due("quorum of any", y.quorum(1, 0), 127);
        due("quorum of four", y.quorum(300, 1), 35);
    }

    private static void lies(int n, int k, int q, long above, long below) {
        ThroneBacks x = new ThroneBacks();
        due("lies above " + n + " " + k + " " + q, x.lies(n, k, q, 0), above);
        due("lies below " + n + " " + k + " " + q, x.lies(n, k, q, 1), below);
    }

    private static void promise25() {
        lies(0, 0, 9, 1, 1);
        lies(0, 1, 9, 0, 1);
        lies(2, 1, 8, 3, 4);
        lies(2, 2, 8, 1, 4);
        lies(3, 4, 16, 0, 1);
        lies(3, 3, 16, 1, 1);
        lies(3, 1, 0, 0, 1);
        lies(3, 0, 0, 1, 1);
        lies(12, 13, 5, 0, 1);
        lies(12, 12, 1, 1, 281_474_976_710_656L);
        lies(12, 1, 1, 281_474_976_710_656L - 129_746_337_890_625L, 281_474_976_710_656L);
        lies(2, 1, 5, 135, 256);
        lies(4, 2, 4, 67, 256);
        ThroneBacks x = new ThroneBacks();
        int[][] wrong = {{-1, 0, 0, 0}, {13, 0, 0, 0}, {1, -1, 0, 0}, {1, 14, 0, 0}, {1, 1, -1, 0}, {1, 1, 17, 0},
            {1, 1, 1, -1}, {1, 1, 1, 2}};
        for (int[] a : wrong) {
            noArgument("lies " + java.util.Arrays.toString(a), () -> x.lies(a[0], a[1], a[2], a[3]));
        }
    }

    private static void promise26() {
        ThroneBacks x = new ThroneBacks();
        int[][] want = {{5, 3, 1}, {5, 0, 3}, {0, 3, 2}, {0, 0, 4}, {99, 99, 1}};
        for (int[] row : want) {
            due("kneel " + row[0] + " " + row[1], x.kneel(row[0], row[1], 0), row[2]);
            due("kneel, the first " + row[0] + " " + row[1], x.kneel(row[0], row[1], 1), 0);
            due("kneel, together " + row[0] + " " + row[1], x.kneel(row[0], row[1], 2), 0);
        }
        noArgument("kneel 100", () -> x.kneel(100, 0, 0));
        noArgument("kneel -1", () -> x.kneel(-1, 0, 0));
        noArgument("kneel by 100", () -> x.kneel(0, 100, 0));
        noArgument("kneel by -1", () -> x.kneel(0, -1, 0));
        noArgument("kneel, what 3", () -> x.kneel(0, 0, 3));
        noArgument("kneel, what -1", () -> x.kneel(0, 0, -1));
    }

    private static void balm(ThroneBacks x, int backs, int n, int... want) {
        for (int back = 0; back < want.length; back++) {
            due("balm " + back + " of " + backs + " by " + n, x.balm(back, backs, n), want[back]);
        }
    }

    private static void promise27() {
        ThroneBacks x = courtOf(COURT);
        balm(x, 7, 9, 0, 0, 0);
        work(x, "sit 0 0;sit 1 2;sit 2 1;");
        balm(x, 7, 0, 0, 0, 0);
        balm(x, 7, 2, 0, 0, 0);
        balm(x, 7, 3, 1, 1, 1);
        balm(x, 7, 24, 8, 8, 8);
        balm(x, 7, 25, 8, 8, 8);
        balm(x, 7, 26, 9, 9, 8);
        balm(x, 7, 50, 21, 21, 8);
        balm(x, 7, 51, 21, 22, 8);
        balm(x, 7, 78, 21, 49, 8);
        balm(x, 7, 79, 21, 50, 8);
        balm(x, 7, 9_999, 21, 50, 8);
        balm(x, 5, 20, 12, 0, 8);
        balm(x, 2, 20, 0, 20, 0);
        balm(x, 0, 20, 0, 0, 0);
        noArgument("balm: no back 3 in it", () -> x.balm(0, 8, 1));
        noArgument("balm: bits below 0", () -> x.balm(0, -1, 1));
        noArgument("balm: n below 0", () -> x.balm(0, 1, -1));
        noArgument("balm: n beyond", () -> x.balm(0, 1, 10_000));
        noElement("balm: no back", () -> x.balm(3, 1, 1));
        noElement("balm: no back below 0", () -> x.balm(-1, 1, 1));
        noElement("balm: no back, ahead of bits", () -> x.balm(3, 8, -1));
    }

    private static void promise28() {
        ThroneBacks x = courtOf(COURT);
        due("weariest: the first", x.weariest(0), 0);
        due("weariest: of 0", x.weariest(1), 0);
        work(x, "sit 1 0;sit 2 0;");
        due("weariest: the first of alike", x.weariest(0), 1);
        due("weariest: how tired", x.weariest(1), 21);
        work(x, "sit 0 2;");
        due("weariest: who lies, too", x.weariest(0) * 100 + x.weariest(1), 50);
        noArgument("weariest, what 2", () -> x.weariest(2));
        noArgument("weariest, what -1", () -> x.weariest(-1));
        ThroneBacks y = new ThroneBacks();
        due("weariest: no backs", y.weariest(0) * 10 + y.weariest(1), -11);
    }

    private static void promise29() {
        ThroneBacks x = courtOf(COURT);
        due("heaviest", x.heaviest(0, 0), 2);
        due("heaviest: its burden", x.heaviest(0, 1), 50);
        law(x, "back*8/hours");
        due("heaviest: the first of alike", x.heaviest(1, 0) * 10 + x.heaviest(1, 1), 2);
        due("heaviest: of none", x.heaviest(0, 0) * 10 + x.heaviest(0, 1), 0);
        law(x, "60-9*hours");
        due("heaviest: another", x.heaviest(1, 0) * 100 + x.heaviest(1, 1), 24);
        law(x, "20+day*hours");
        due("heaviest: now, not later", x.heaviest(1, 1), 40);
        noArgument("heaviest, what 2", () -> x.heaviest(0, 2));
        noArgument("heaviest, what -1", () -> x.heaviest(0, -1));
        noElement("heaviest: no back", () -> x.heaviest(3, 2));
        noElement("heaviest: no back below 0", () -> x.heaviest(-1, 0));
        court(x, "back 1 1;");
        due("heaviest: no councils", x.heaviest(0, 0) * 10 + x.heaviest(0, 1), -11);
    }

    private static void promise30() {
        ThroneBacks x = courtOf("back 99 9;back 99 9;back 99 9;back 1 9;council 4 1;council 4 2;");
        due("listeners: it knows nothing", x.listeners(0), 0);
        work(x, "sit 0 0;");
        due("listeners", x.listeners(0), 14);
        due("listeners: of another", x.listeners(1), 0);
        work(x, "sit 3 0;tell 0 1;");
        due("listeners: not who lies, not who knows", x.listeners(0), 4);
        due("listeners: of who heard", x.listeners(1), 4);
        work(x, "sit 1 1;");
        due("listeners: of who knows more", x.listeners(1), 5);
        noElement("listeners: no back", () -> x.listeners(4));
        noElement("listeners: no back below 0", () -> x.listeners(-1));
        ThroneBacks y = courtOf("back 21 9;back 99 9;council 4 1;council 9 9;");
        work(y, "sit 0 0;");
        due("listeners: it stands", y.listeners(0), 2);
        work(y, "sit 0 1;");
        due("listeners: of who lies", y.listeners(0), 0);
    }

    private static void promise31() {
        ThroneBacks x = courtOf("back 30 0;back 99 9;council 4 0;council 8 0;king 20;");
        due("ready: now", x.ready(0, 0), 0);
        due("ready: never", x.ready(0, 1), -1);
        work(x, "sit 0 0;");
        due("ready: in two days", x.ready(0, 0), 2);
        law(x, "weight-day");
        due("ready: as the load is then", x.ready(0, 0), 2);
        due("ready: as the load is then, in eight", x.ready(0, 1), 5);
        law(x, "tired*2");
        due("ready: as tired as then", x.ready(0, 0), 2);
        law(x, "day/99*60+129-day");
        due("ready: day 98 is not enough", x.ready(0, 0), -1);
        law(x, "129-day");
        due("ready: in 99 days", x.ready(0, 0), 99);
        law(x, "130-day");
        due("ready: not in 99 days", x.ready(0, 0), -1);
        work(x, "again 40[day;day;day;day;];");
        law(x, "200-day");
        due("ready: days count on from 160", x.ready(0, 0), 10);
        law(x, "60-day/50*10");
        due("ready: from day 160 on", x.ready(0, 0), 0);
        promise31Edges();
    }

    private static void promise31Edges() {
        ThroneBacks x = courtOf("back 30 0;council 4 0;king 20;");
        work(x, "again 40[day;day;day;day;];");
        work(x, "again 40[day;day;day;day;];");
        work(x, "again 40[day;day;day;day;];");
        due("day 400", x.told(3), 400);
        law(x, "435-day");
        due("ready: beyond day 400", x.ready(0, 0), 5);
        law(x, "60");
        work(x, "sit 0 0;");
        law(x, "0");
        due("ready: who lies", x.ready(0, 0), -1);
        noElement("ready: no back", () -> x.ready(1, 0));
        noElement("ready: no back below 0", () -> x.ready(-1, 0));
        noElement("ready: no council", () -> x.ready(0, 1));
        noElement("ready: no council below 0", () -> x.ready(0, -1));
    }

    private static void promise32() {
        ThroneBacks x = courtOf("back 99 9;back 99 9;council 4 1;council 4 2;council 4 3;king 1;");
        due("sure: of none", x.sure(0, 0) + x.sure(0, 1), 0);
        work(x, "sit 0 0;sit 1 1;sit 1 2;tell 0 1;");
        due("sure: of itself", x.sure(1, 0), 6);
        due("sure: by hearing", x.sure(1, 1), 1);
        work(x, "sit 1 0;");
        due("sure: of itself from now on", x.sure(1, 0), 7);
        due("sure: not by hearing", x.sure(1, 1), 0);
        noArgument("sure, what 2", () -> x.sure(0, 2));
        noArgument("sure, what -1", () -> x.sure(0, -1));
        noElement("sure: no back", () -> x.sure(2, 2));
        noElement("sure: no back below 0", () -> x.sure(-1, 0));
    }

    private static void promise33() {
        ThroneBacks x = courtOf("back 21 5;back 20 8;back 50 0;council 4 5;council 2 1;council 8 9;king 16;");
        due("bearers", x.bearers(0), 5);
        due("bearers of less", x.bearers(1), 7);
        due("bearers of more", x.bearers(2), 4);
        work(x, "sit 2 1;sit 1 2;");
        due("bearers: tired ones", x.bearers(2), 0);
        due("bearers: not who lies", x.bearers(1), 5);
        law(x, "0");
        due("bearers: not who lies, by any law", x.bearers(1), 5);
        law(x, "day*40");
        due("bearers: now, not later", x.bearers(2), 5);
        noElement("bearers: no council", () -> x.bearers(3));
        noElement("bearers: no council below 0", () -> x.bearers(-1));
    }

    private static void promise34() {
        ThroneBacks x = courtOf("back 99 9;back 99 9;back 99 9;back 99 9;council 4 1;council 4 2;king 1;");
        due("rumour: none", x.rumour(0, 0) * 10 + x.rumour(0, 1), -11);
        work(x, "sit 2 0;");
        due("rumour: of itself", x.rumour(0, 0) * 10 + x.rumour(0, 1), 20);
        work(x, "tell 2 3;tell 2 1;");
        due("rumour: the first of alike", x.rumour(0, 0) * 10 + x.rumour(0, 1), 11);
        work(x, "tell 3 0;");
        due("rumour: by most", x.rumour(0, 0) * 10 + x.rumour(0, 1), 2);
        due("rumour: of the other", x.rumour(1, 0), -1);
        noArgument("rumour, what 2", () -> x.rumour(0, 2));
        noArgument("rumour, what -1", () -> x.rumour(0, -1));
        noElement("rumour: no council", () -> x.rumour(2, 2));
        noElement("rumour: no council below 0", () -> x.rumour(-1, 0));
    }

    private static void promise35() {
        ThroneBacks x = courtOf(COURT);
        work(x, "sit 2 1;sit 1 2;");
        int[][] want = {{0, 6, 1}, {1, 6, 1}, {2, 4, 1}, {5, 4, 1}, {6, 4, 0}, {9, 4, 0}};
        for (int[] row : want) {
            due("lied " + row[0], x.lied(row[0], 0), row[1]);
            due("lied, not borne " + row[0], x.lied(row[0], 1), row[2]);
        }
        noArgument("lied 10", () -> x.lied(10, 0));
        noArgument("lied -1", () -> x.lied(-1, 0));
        noArgument("lied, what 2", () -> x.lied(0, 2));
        noArgument("lied, what -1", () -> x.lied(0, -1));
    }
}
