/** Promises 1 to 8: a new object, the tape, the four texts, their faults, and undo. */
public final class TextPromisesTest extends PromiseTest {
    public static void main(String[] args) {
        promise1();
        promise2();
        promise3();
        promise3Faults();
        promise4();
        promise4Faults();
        promise5();
        promise5Steps();
        promise5Bounds();
        promise5Faults();
        promise6();
        promise7();
        promise8();
        Checks.finish();
    }

    private static void promise1() {
        ThroneBacks x = new ThroneBacks();
        int[] want = {0, 0, 20, 0, 0, 0, 0, 0, 0, 0, 0, 0};
        for (int what = 0; what < want.length; what++) {
            due("new: told " + what, x.told(what), want[what]);
        }
        due("new: fault", x.fault(), -1);
        due("new: images", x.count(0), 0);
        due("new: tape", x.count(1), 0);
        due("new: works", x.count(2), 0);
        due("new: law", x.would(12, 5, 3, 9, 9, 999, 12, 400, 6), 10);
        due("constant", ThroneBacks.NONE, -1);
    }

    private static void promise2() {
        ThroneBacks x = new ThroneBacks();
        for (int i = 1; i <= 30; i++) {
            due("feed " + i, x.feed(1, 2, 3, 4, 5), 20 * i);
        }
        due("feed beyond 600", x.feed(1, 2, 3, 4, 5), -1);
        due("feed beyond 600 does nothing", x.count(1), 600);
        ThroneBacks y = new ThroneBacks();
        y.feed(0x6b696e67, 0x20333b6b, 0x696e6720, 0x393b6b69, 0x6e672035);
        due("feed, order of bytes", y.court(14), 0);
        due("feed, order of bytes: king", y.told(2), 9);
    }

    private static void promise3() {
        ThroneBacks x = new ThroneBacks();
        due("court", court(x, "back 30 5;council 4 5;back 60 8;king 16;king 7;"), 2);
        due("court: councils", x.told(1), 1);
        due("court: the last king counts", x.told(2), 7);
        due("court: blanks", court(x, "  back1 0 ; council 9  9;king 040;   "), 1);
        due("court: leading noughts", x.told(2), 40);
        due("court: usual king", court(x, "back 00099 9;"), 1);
        due("court: usual king's weight", x.told(2), 20);
        due("court: strength", x.back(0, 0), 99);
        due("court: edges", court(x, "back 1 0;".repeat(7) + "council 1 0;".repeat(12) + "king 1;".repeat(41)), 7);
        due("court: 12 councils", x.told(1), 12);
        due("court: blanks alone", court(x, "    "), 0);
        put(x, "back 1 1;back 1 1;");
        noArgument("court: n below 0", () -> x.court(-1));
        noArgument("court: n beyond the tape", () -> x.court(21));
        due("court: the tape stays", x.count(1), 20);
        due("court: the first n bytes", x.court(9), 1);
        due("court: the tape is empty then", x.count(1), 0);
        ThroneBacks y = new ThroneBacks();
        due("court: 600 bytes", court(y, "king 1;" + " ".repeat(593)), 0);
        promise3StartsAnew();
    }

    private static void promise3StartsAnew() {
        ThroneBacks x = courtOf(COURT);
        law(x, "7");
        book(x, "0 3;");
        work(x, "sit 0 0;sit 2 2;hold 3;hold 3;day;tell 0 1;sit 0 2;");
        x.image();
        due("court: faulty, all stays", court(x, "back 5 5;kong"), -9);
        due("court: faulty, day stays", x.told(3), 1);
        due("court: faulty, book stays", x.told(9), 1);
        due("court: faulty, backs stay", x.told(0), 3);
        due("court: faulty, law stays", x.load(0, 0), 7);
        due("court: faulty, images stay", x.count(0), 1);
        due("court: faulty, works stay", x.count(2), 1);
        due("court: faulty, the tape is empty", x.count(1), 0);
        due("court: anew", court(x, COURT), 3);
        for (int what : new int[] {3, 4, 5, 6, 7, 8, 9, 10}) {
            due("court: anew, told " + what, x.told(what), 0);
        }
        for (int back = 0; back < 3; back++) {
            due("court: anew, nobody bore " + back, x.back(back, 5) + x.back(back, 6), 0);
            due("court: anew, how tired " + back, x.back(back, 2) + x.back(back, 3) + x.back(back, 4), 0);
        }
        for (int council = 0; council < 3; council++) {
            due("court: anew, not borne " + council, x.council(council, 2) + x.council(council, 4), 0);
        }
        due("court: anew, no law", x.load(0, 0), 21);
        due("court: anew, no images", x.count(0), 0);
        due("court: anew, nothing to undo", x.undo(), -1);
    }

    private static void courtFault(String text, int kind, int place) {
        ThroneBacks x = courtOf(COURT);
        due("court " + text, court(x, text), kind - 10);
        due("court's fault " + text, x.fault(), place);
        due("court stays " + text, x.told(2), 16);
    }

    private static void promise3Faults() {
        courtFault("back 0 0;", 2, 5);
        courtFault("back 100 0;", 2, 5);
        courtFault("back 1 10;", 2, 7);
        courtFault("council 0 0;", 2, 8);
        courtFault("council 10 0;", 2, 8);
        courtFault("council 1 10;", 2, 10);
        courtFault("king 0;", 2, 5);
        courtFault("king 41;", 2, 5);
        courtFault("king 4294967297;", 2, 5);
        courtFault("king 99999999999999999999999;", 2, 5);
        courtFault("king 1", 1, 6);
        courtFault("king 1  ", 1, 8);
        courtFault("king", 1, 4);
        courtFault("king ;", 1, 5);
        courtFault("king 1 1;", 1, 7);
        courtFault("back 1;", 1, 6);
        courtFault("back 1 ", 1, 7);
        courtFault("  queen 1;", 1, 2);
        courtFault("King 1;", 1, 0);
        courtFault("kin", 1, 0);
        courtFault("xing 1;", 1, 0);
        courtFault("kinx 1;", 1, 0);
        courtFault("kingz 1;", 1, 0);
        courtFault("kingA 1;", 1, 4);
        courtFault(";", 1, 0);
        courtFault("king 1;;", 1, 7);
        courtFault("back -1 0;", 1, 5);
        courtFault("back\t1 0;", 1, 4);
        courtFault("king 1;\u00e9", 1, 7);
        courtFault("back 1 0;".repeat(7) + "  back 1", 3, 65);
        courtFault("back 1 0;".repeat(7) + "backs 1", 1, 63);
        courtFault("council 1 0;".repeat(12) + "council", 3, 144);
        courtFault("king 1;".repeat(60) + " king 1;", 3, 421);
        courtFault("king 1;".repeat(60) + "kings 1;", 1, 420);
        courtFault("king 1;".repeat(60) + "5", 1, 420);
        courtFault("king 41", 2, 5);
    }

    private static void promise4() {
        ThroneBacks x = courtOf(COURT);
        due("law", law(x, " weight - 2 * held + lie % 3 "), 1);
        due("law: told", x.would(20, 3, 8, 1, 0, 0, 0, 0, 0), 16);
        due("law: left to right", law(x, "60-20-10/3*2"), 1);
        due("law: left to right, value", x.load(0, 0), 34);
        due("law: brackets", law(x, "60 -(20-10)/(3*2)"), 1);
        due("law: brackets, value", x.load(0, 0), 59);
        due("law: six are open", law(x, "((most[least[(most[1,5]),9],2]))"), 1);
        due("law: six are open, value", x.load(0, 0), 5);
        due("law: 999", law(x, "999-(960)"), 1);
        due("law: 999, value", x.load(0, 0), 39);
        String longest = "0" + "+1".repeat(74);
        due("law: 149 bytes", law(x, longest + " "), 1);
        due("law: 150 bytes' value", x.load(0, 0), 60);
        put(x, " ".repeat(149) + "11");
        noArgument("law: 151 bytes", () -> x.law(151));
        noArgument("law: n below 0", () -> x.law(-1));
        noArgument("law: n beyond the tape", () -> x.law(161));
        due("law: the tape stays", x.count(1), 160);
        due("law: its first 150", x.law(150), 1);
        due("law: its value", x.load(0, 0), 1);
        due("law: the tape is empty then", x.count(1), 0);
        promise4Values();
    }

    private static void lawValue(String law, int want) {
        ThroneBacks x = new ThroneBacks();
        law(x, law);
        due("law " + law, x.would(40, 2, 3, 4, 5, 600, 7, 300, 6), want);
    }

    private static void promise4Values() {
        lawValue("weight", 40);
        lawValue("held", 2);
        lawValue("lie", 3);
        lawValue("hours", 4);
        lawValue("care", 5);
        lawValue("tired/100", 6);
        lawValue("knows", 7);
        lawValue("day/100+5", 8);
        lawValue("back+3", 9);
        lawValue("tired", 60);
        lawValue("held-lie", 0);
        lawValue("lie/(held-2)+7", 7);
        lawValue("lie%(held-2)+7", 7);
        lawValue("(0-7)/2+10", 7);
        lawValue("(0-7)%4+10", 7);
        lawValue("7%(0-4)+10", 13);
        lawValue("least[9,5]+most[1,2]", 7);
        // 999 to the power of 4 wraps to -426,416,671.
        lawValue("0-999*999*999*999/999/999/10", 42);
        // The least number of 32 bits by -1 is itself, and leaves 0.
        lawValue("(0-512*512*512*16)/(0-1)/512/512/512+20", 4);
        lawValue("(0-512*512*512*16)%(0-1)+11", 11);
        lawValue("(512*512*512*16-1)/512/512/512", 15);
        lawValue("(512*512*512*16)/512/512/512+20", 4);
    }

    private static void lawFault(String text, int kind, int place) {
        ThroneBacks x = courtOf(COURT);
        law(x, "9");
        due("law " + text, law(x, text), kind - 10);
        due("law's fault " + text, x.fault(), place);
        due("law stays " + text, x.load(0, 0), 9);
        due("law, the tape is empty " + text, x.count(1), 0);
    }

    private static void promise4Faults() {
        lawFault("", 1, 0);
        lawFault("   ", 1, 3);
        lawFault("1000", 2, 0);
        lawFault("1+ 1000)", 2, 3);
        lawFault("held+", 1, 5);
        lawFault("held+ ", 1, 6);
        lawFault("held lie", 1, 5);
        lawFault("held;", 1, 4);
        lawFault("lie2", 1, 3);
        lawFault("2lie", 1, 1);
        lawFault("days", 1, 0);
        lawFault("weightlie", 1, 0);
        lawFault("-1", 1, 0);
        lawFault("1--1", 1, 2);
        lawFault("least 5", 1, 6);
        lawFault("least[5]", 1, 7);
        lawFault("least[5,6", 1, 9);
        lawFault("least[5,6)", 1, 9);
        lawFault("most(5,6)", 1, 4);
        lawFault("(1", 1, 2);
        lawFault("(1]", 1, 2);
        lawFault("()", 1, 1);
        lawFault("1)", 1, 1);
        lawFault("(((((((1", 3, 6);
        lawFault("(((((( least", 3, 7);
        lawFault("(((((( most[", 3, 7);
        lawFault("(((((( least[1,1]", 3, 7);
        lawFault("least[most[least[most[(1),(((1", 3, 28);
        lawFault("(((((( leasts", 1, 7);
        lawFault("((((((1))))))+(((((((2", 3, 20);
        lawFault("Weight", 1, 0);
        lawFault("1 , 2", 1, 2);
    }

    private static void promise5() {
        ThroneBacks x = courtOf(COURT);
        due("work: nothing", work(x, ""), 0);
        due("work: nothing is a work", x.count(2), 1);
        due("work", work(x, " day ; again 3 [ day;hold 3 ; ] ;"), 5);
        due("work: refused", x.told(10), 2);
        due("work: the day", x.told(3), 4);
        due("work: none of them is done by a fault", work(x, "day;hold 4;dey;"), -9);
        due("work: the fault's place", x.fault(), 11);
        due("work: all stays", x.told(3), 4);
        due("work: refused stays", x.told(10), 2);
        due("work: no work more", x.count(2), 2);
        due("work: the tape is empty", x.count(1), 0);
        put(x, "day;".repeat(38));
        noArgument("work: 151 bytes", () -> x.work(151));
        noArgument("work: n below 0", () -> x.work(-1));
        noArgument("work: n beyond the tape", () -> x.work(161));
        due("work: the tape stays", x.count(1), 160);
        due("work: the first 148 bytes", x.work(148), 37);
        due("work: the days", x.told(3), 41);
        due("work: the tape is empty then", x.count(1), 0);
    }

    private static void promise5Steps() {
        ThroneBacks x = courtOf("back 21 5;back 99 4;back 10 9;council 4 5;council 2 1;council 8 6;king 16;");
        due("sit", work(x, "sit 0 0;"), 1);
        due("sit: as tired as strong, it stands", x.back(0, 3), 0);
        due("sit: it knows", x.hearing(0, 0), 0);
        due("sit: one who falls", work(x, "sit 2 0;sit 2 0;"), 1);
        due("sit: who lies is refused", x.told(10), 1);
        due("sit: it fell", x.told(5), 4);
        due("sit: it is tired", x.back(2, 2), 21);
        due("sit: it knows nothing by it", x.hearing(2, 0), -1);
        due("sit: it was borne all the same", x.council(0, 4), 5);
        due("sit: lie and care of 9", work(x, "sit 1 0;") * 10 + x.hearing(1, 0), 9);
        due("sit: lie and care of 10", work(x, "sit 1 2;") * 10 + x.hearing(1, 2), 10);
        due("tell: to one who lies", work(x, "tell 0 2;"), 0);
        due("tell: by one who lies", work(x, "tell 2 0;"), 0);
        due("tell: to itself", work(x, "tell 0 0;"), 0);
        due("tell", work(x, "tell 0 1;"), 1);
        due("tell: by hearing", x.hearing(1, 0), 1);
        due("tell: not what it knows", work(x, "tell 0 1;"), 0);
        due("tell: only what it does not know", work(x, "tell 1 0;") * 10 + x.hearing(0, 0), 10);
        due("tell: the other council", x.hearing(0, 2), 1);
        due("rest", work(x, "rest 2;"), 1);
        due("rest: half, cut", x.back(2, 2), 10);
        due("rest: it stands", x.told(5), 0);
        due("rest: who is not tired", work(x, "rest 2;rest 2;rest 2;rest 2;rest 2;"), 4);
        promise5MoreSteps();
    }

    private static void promise5MoreSteps() {
        ThroneBacks x = courtOf(COURT);
        due("hold: as he does", work(x, "hold 0;"), 0);
        due("hold: by his weight", work(x, "hold 16;"), 1);
        due("hold: beyond it", work(x, "hold 17;"), 0);
        due("hold: told", x.told(4), 16);
        due("hold: makes less of it", x.load(0, 2), 9);
        due("hold: back", work(x, "hold 0;"), 1);
        due("day", work(x, "sit 0 2;sit 1 2;sit 2 0;day;"), 4);
        due("day: by 5 and care", x.back(0, 2) * 10000 + x.back(1, 2) * 100 + x.back(2, 2), 403716);
        due("day: who fell stays so", x.told(5), 5);
        due("day: 0 at least", work(x, "again 4[day;];") * 100 + x.back(2, 2), 400);
        due("rest: who lies and is not tired", work(x, "rest 2;") * 10 + x.back(2, 3), 1);
        ThroneBacks y = courtOf("back 99 9;back 99 9;council 1 1;king 4;");
        work(y, "sit 0 0;tell 0 1;sit 1 0;");
        due("sit: known by hearing, then of itself", y.hearing(1, 0), 0);
        ThroneBacks z = courtOf("back 99 9;back 20 0;council 9 9;council 4 9;king 10;");
        work(z, "hold 9;sit 0 0;tell 0 1;hold 0;sit 1 0;");
        due("sit: who falls knows as before", z.hearing(1, 0), 1);
        ThroneBacks v = courtOf("back 99 9;back 99 0;council 1 1;king 4;");
        work(v, "sit 0 0;tell 0 1;sit 1 0;");
        due("sit: felt nothing, by hearing as before", v.hearing(1, 0), 1);
        ThroneBacks w = courtOf("back 10 0;council 8 0;council 1 0;king 20;");
        work(w, "sit 0 0;rest 0;");
        due("rest: stands, though too tired", w.back(0, 3) * 100 + w.back(0, 2), 20);
        due("sit: too tired ahead of it", work(w, "hold 20;sit 0 1;") * 10 + w.back(0, 3), 21);
    }

    private static void promise5Bounds() {
        ThroneBacks x = courtOf(COURT);
        due("200 begun: an again is one", work(x, "again 40[day;day;day;day;day;];"), 199);
        due("200 begun: refused ones, too", work(x, "again 40[hold 0;hold 0;day;day;day;];"), 119);
        due("200 begun: refused ones are told", x.told(10), 80);
        due("200 begun: inner agains, each time", work(x, "again 40[again 0[day;];again 9[];hold 1;hold 2;hold 3;];"), 119);
        due("200 begun: what comes behind is left out", work(x, "again 40[again 40[hold 0;];];hold 9;"), 1);
        due("200 begun: it is so told", x.told(4), 0);
        due("day 318", x.told(3), 318);
        due("day 400", work(x, "again 40[day;day;day;];"), 82);
        due("day 400, refused", x.told(10), 38);
        due("day 400, told", x.told(3), 400);
        ThroneBacks y = courtOf(COURT);
        due("agains of 0", work(y, "again 0[day;];day;"), 1);
        due("agains in agains", work(y, "again 2[again 3[day;];again 2[again 2[day;];];];"), 14);
        due("agains in agains, six open", work(y, "again 1[again 2[again 1[again 2[again 1[again 2[day;];];];];];];"), 8);
        String six = "again 40[".repeat(6) + "day;" + "];".repeat(6);
        due("agains left out with six open", work(y, six), 190);
        due("agains behind such", work(y, "again 2[day;];" + six.replace("40", "1")), 3);
        for (int i = 6; i <= 16; i++) {
            due("works", work(y, "day;"), 1);
        }
        put(y, "dey;");
        noArgument("16 works: n beyond the tape", () -> y.work(21));
        due("16 works: the tape stays", y.count(1), 20);
        due("16 works", y.work(4), -20);
        due("16 works: no fault", y.fault(), -1);
        due("16 works: the tape is empty", y.count(1), 0);
        due("16 works: none more", y.count(2), 16);
        y.undo();
        due("15 works: a fault", work(y, "dey;"), -9);
        due("15 works", work(y, "day;day;"), 2);
        put(y, "dey;");
        due("16 works again", y.work(4), -20);
        due("16 works again: no fault of old", y.fault(), -1);
    }

    private static void workFault(String text, int kind, int place) {
        ThroneBacks x = courtOf(COURT);
        due("work " + text, work(x, text), kind - 10);
        due("work's fault " + text, x.fault(), place);
        due("work: nothing to undo " + text, x.count(2), 0);
    }

    private static void promise5Faults() {
        workFault("sit 3 0;", 2, 4);
        workFault("sit 0 3;", 2, 6);
        workFault("tell 3 0;", 2, 5);
        workFault("tell 0 3;", 2, 7);
        workFault("hold 41;", 2, 5);
        workFault("rest 3;", 2, 5);
        workFault("again 41[];", 2, 6);
        workFault("sit 0;", 1, 5);
        workFault("sit 00;", 1, 6);
        workFault("sit", 1, 3);
        workFault("day", 1, 3);
        workFault("day 1;", 1, 4);
        workFault("days;", 1, 0);
        workFault("]", 1, 0);
        workFault("day;]", 1, 4);
        workFault("again 1;", 1, 7);
        workFault("again [];", 1, 6);
        workFault("again 1[day];", 1, 11);
        workFault("again 1[day;", 1, 12);
        workFault("again 1[day;]", 1, 13);
        workFault("again 1[;];", 1, 8);
        workFault("again 1(day;);", 1, 7);
        workFault("again 1[".repeat(6) + "again 1[", 3, 48);
        workFault("again 1[".repeat(6) + " again 99[", 3, 49);
        workFault("again 1[".repeat(6) + "agains 1[", 1, 48);
        workFault("again 1[".repeat(6) + "day;", 1, 52);
        ThroneBacks x = new ThroneBacks();
        due("work without backs", work(x, "rest 0;") * 100 + x.fault(), -795);
        court(x, "back 1 1;");
        due("work without councils", work(x, "sit 0 0;") * 100 + x.fault(), -794);
    }

    private static void promise6() {
        ThroneBacks x = courtOf(COURT);
        due("book", book(x, " 2 999;0 0 ;"), 2);
        due("book: lines", x.told(9), 2);
        due("book: faulty", book(x, "1 5;1 5;"), -8);
        due("book: the fault's place", x.fault(), 4);
        due("book: stays", x.told(9), 2);
        String[] texts = {"3 0;", "0 1000;", "0;", "0 1", "0 1;0 2;", "0 1;00 2", "x", "0 0;3", "0 1 1;", "0 1; 1"};
        int[] kinds = {2, 2, 1, 1, 2, 2, 1, 2, 1, 1};
        int[] places = {0, 2, 1, 3, 4, 4, 0, 4, 4, 6};
        for (int i = 0; i < texts.length; i++) {
            due("book " + texts[i], book(x, texts[i]), kinds[i] - 10);
            due("book's fault " + texts[i], x.fault(), places[i]);
        }
        due("book: another", book(x, "1 7;"), 1);
        due("book: its lines", x.told(9), 1);
        due("book: none", book(x, ""), 0);
        due("book: no lines", x.told(9), 0);
        put(x, "0 5;" + " ".repeat(60));
        noArgument("book: 61 bytes", () -> x.book(61));
        noArgument("book: n below 0", () -> x.book(-1));
        noArgument("book: n beyond the tape", () -> x.book(81));
        due("book: the tape stays", x.count(1), 80);
        due("book: 60 bytes", x.book(60), 1);
        due("book: the tape is empty then", x.count(1), 0);
    }

    private static void promise7() {
        ThroneBacks x = courtOf(COURT);
        law(x, "1+");
        due("fault", x.fault(), 2);
        due("fault, once more", x.fault(), 2);
        put(x, "9");
        noArgument("fault: no text", () -> x.law(99));
        due("fault: of the latest text", x.fault(), 2);
        x.law(1);
        due("fault: without", x.fault(), -1);
        court(x, "k");
        due("fault: of a court", x.fault(), 0);
        work(x, "");
        due("fault: of a work, without", x.fault(), -1);
        book(x, "0 0 ");
        due("fault: of a book", x.fault(), 4);
        x.undo();
        due("fault: stays behind undo", x.fault(), 4);
        court(x, COURT);
        due("fault: of a court, without", x.fault(), -1);
    }

    private static void promise8() {
        ThroneBacks x = courtOf(COURT);
        due("undo: none", x.undo(), -1);
        work(x, "sit 0 0;hold 2;day;");
        work(x, "sit 2 0;tell 0 1;tell 0 1;day;");
        law(x, "5");
        book(x, "0 0;");
        due("undo: refused ahead of it", x.told(10), 1);
        due("undo", x.undo(), 1);
        due("undo: refused behind it", x.told(10), 0);
        due("undo: the day", x.told(3), 1);
        due("undo: nobody fell", x.told(5), 0);
        due("undo: who knows", x.council(0, 3), 1);
        due("undo: who bore", x.council(0, 4), 1);
        due("undo: how often", x.told(7), 1);
        due("undo: how tired", x.told(6), 11);
        due("undo: how often a back bore", x.back(2, 5) * 10 + x.back(2, 6), 0);
        due("undo: held stays", x.told(4), 2);
        ThroneBacks y = courtOf("back 99 9;back 99 9;council 4 9;king 1;");
        work(y, "sit 0 0;tell 0 1;");
        work(y, "sit 1 0;");
        due("undo: of itself ahead of it", y.hearing(1, 0), 0);
        y.undo();
        due("undo: by hearing behind it", y.hearing(1, 0), 1);
        due("undo: the law stays", x.load(0, 0), 5);
        due("undo: the book stays", x.told(9), 1);
        due("undo: the first", x.undo(), 0);
        due("undo: held", x.told(4), 0);
        due("undo: nobody knows", x.told(8), 0);
        due("undo: none is left", x.undo(), -1);
    }
}
