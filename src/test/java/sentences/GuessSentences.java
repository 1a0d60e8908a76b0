/** Promises 22 and 23: which council it was, and whom to look at next. */
final class GuessSentences extends PromiseTest {
    private static final String ALIKE = "back 99 0;back 99 0;back 1 0;council 4 1;council 4 1;council 4 2;king 9;";

    static void tell() {
        fits();
        promise22();
        look();
        promise23();
    }

    private static void fits(ThroneBacks x, String lines, int many, int first) {
        book(x, lines);
        due("fits by " + lines, x.fits(0), many);
        due("the first by " + lines, x.fits(1), first);
    }

    private static void look(ThroneBacks x, String lines, int back, int left) {
        book(x, lines);
        due("look by " + lines, x.look(0), back);
        due("left by " + lines, x.look(1), left);
    }

    private static void fits() {
        sentence(22, "FITS by BOOK: pairs of a BACK and a COUNCIL by which, had that BACK borne it now", () -> {
            ThroneBacks x = courtOf(COURT);
            fits(x, "0 21;", 1, 0);
            fits(x, "1 50;2 0;", 1, 102);
            fits(x, "0 0;", 6, 100);
            work(x, "sit 0 0;day;");
            fits(x, "0 11;", 6, 100);
            fits(x, "0 32;", 1, 0);
            law(x, "day*4+tired");
            fits(x, "0 26;", 1, 0);
            fits(x, "0 18;", 1, 1);
        });
        sentence(22, "(if it fell, all stays)", () -> {
            ThroneBacks x = courtOf(ALIKE);
            work(x, "sit 2 0;");
            fits(x, "0 0;1 0;", 3, 200);
            fits(x, "0 0;1 0;2 10;", 3, 200);
            fits(x, "2 20;", 0, -1);
            work(x, "rest 2;");
            fits(x, "0 0;1 0;2 15;", 2, 200);
        });
        sentence(22, "all lines are right", () -> {
            ThroneBacks x = courtOf(COURT);
            fits(x, "", 9, 0);
            fits(x, "0 21;1 0;2 0;", 1, 0);
            fits(x, "0 21;1 0;2 1;", 0, -1);
            fits(x, "0 21;1 21;", 0, -1);
            fits(x, "0 0;1 0;2 0;", 0, -1);
            law(x, "0");
            fits(x, "0 0;1 0;2 0;", 9, 0);
            law(x, "999");
            fits(x, "2 120;", 1, 202);
            ThroneBacks y = courtOf("back 1 0;council 9 9;");
            law(y, "999");
            fits(y, "0 135;", 1, 0);
            fits(y, "0 999;", 0, -1);
        });
        sentence(22, "how many, the first (100 times the BACK, and the COUNCIL)", () -> {
            ThroneBacks x = courtOf("back 1 1;".repeat(7) + "council 4 1;".repeat(11) + "council 8 2;king 9;");
            fits(x, "", 84, 0);
            fits(x, "6 22;", 1, 611);
            fits(x, "5 10;", 11, 500);
        });
    }

    private static void promise22() {
        sentence(22, "FITS: 0 how many, 1 the first (NONE).", () -> {
            ThroneBacks x = courtOf(COURT);
            fits(x, "1 50;2 8;", 0, -1);
            due("no backs", courtOf("council 1 1;").fits(0) * 10 + courtOf("council 1 1;").fits(1), -1);
            due("no councils", courtOf("back 1 1;").fits(0) * 10 + courtOf("back 1 1;").fits(1), -1);
            noArgument("what 2", () -> x.fits(2));
            noArgument("what -1", () -> x.fits(-1));
        });
    }

    private static void look() {
        sentence(23, "LOOK: the BACK in no line by whom, however TIRED, fewest such pairs are left at the worst", () -> {
            ThroneBacks x = courtOf(COURT);
            look(x, "", 0, 6);
            look(x, "0 0;", 1, 3);
            look(x, "1 50;2 0;", 0, 1);
            ThroneBacks y = courtOf(ALIKE);
            look(y, "0 0;1 0;", 2, 2);
            law(y, "back*lie*4");
            look(y, "2 0;", 1, 3);
            law(y, "most[back-lie,0]*4");
            look(y, "", 2, 7);
            law(y, "(1-back)*(2-lie)*4");
            look(y, "1 0;", 0, 7);
            ThroneBacks z = courtOf("back 99 0;back 9 0;council 9 0;council 9 1;council 4 1;king 9;");
            law(z, "999");
            look(z, "", 0, 3);
            look(z, "0 135;", 1, 2);
            ThroneBacks w = courtOf("back 99 0;council 9 0;council 9 1;council 4 1;king 9;");
            law(w, "999");
            look(w, "", 0, 2);
            ThroneBacks v = courtOf("back 99 0;back 99 9;council 4 1;council 4 1;council 4 2;king 9;");
            law(v, "care*lie");
            look(v, "", 1, 3);
        });
        sentence(23, "of these the first", () -> {
            ThroneBacks x = courtOf("back 99 0;".repeat(7) + "council 4 1;council 4 2;");
            look(x, "", 0, 12);
            look(x, "0 0;1 0;3 0;", 2, 6);
            look(x, "0 0;1 0;2 0;3 0;4 0;6 0;", 5, 1);
            look(courtOf("back 99 0;".repeat(7) + "council 4 1;".repeat(12)), "0 0;", 1, 60);
        });
    }

    private static void promise23() {
        sentence(23, "LOOK: 0 the BACK, 1 how many are left at the worst", () -> {
            ThroneBacks x = courtOf(COURT);
            look(x, "1 50;2 8;", 0, 0);
            work(x, "sit 2 2;");
            look(x, "0 0;1 0;", 2, 3);
            look(x, "2 50;", 0, 6);
            noArgument("what 2", () -> x.look(2));
            noArgument("what -1", () -> x.look(-1));
            look(courtOf("back 1 1;"), "", 0, 0);
        });
        sentence(23, "NONE both: all are in lines, or there are none.", () -> {
            ThroneBacks x = courtOf(COURT);
            look(x, "0 0;1 0;2 0;", -1, -1);
            look(x, "0 21;1 0;2 0;", -1, -1);
            look(x, "0 0;2 0;", 1, 1);
            look(new ThroneBacks(), "", -1, -1);
            look(courtOf("council 1 1;"), "", -1, -1);
        });
    }
}
