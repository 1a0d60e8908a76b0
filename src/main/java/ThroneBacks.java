import java.util.Arrays;
import java.util.NoSuchElementException;

/** Backs that bear a king through councils: a court, its law, the work done in it, and what can be asked of it. */
public final class ThroneBacks {
    public static final int NONE = -1;

    private static final int MOST_BYTES = 600;
    private static final int MOST_SHORT_BYTES = 150;
    private static final int MOST_BOOK_BYTES = 60;
    private static final int BYTES_FED = 20;
    private static final int MOST_CLAUSES = 60;
    private static final int MOST_BACKS = 7;
    private static final int MOST_COUNCILS = 12;
    private static final int MOST_STRENGTH = 99;
    private static final int MOST_CARE = 9;
    private static final int MOST_HOURS = 9;
    private static final int MOST_LIE = 9;
    private static final int MOST_WEIGHT = 40;
    private static final int USUAL_WEIGHT = 20;
    private static final int MOST_LOAD = 60;
    private static final int MOST_TIRED = 999;
    private static final int MOST_NUMBER = 999;
    private static final int MOST_TURNS = 40;
    private static final int MOST_OPEN = 6;
    private static final int MOST_BEGUN = 200;
    private static final int MOST_HEARINGS = 9;
    private static final int LAST_DAY = 400;
    private static final int MOST_WORKS = 16;
    private static final int MOST_IMAGES = 3;
    private static final int MOST_ROSTER = 6;
    private static final int MOST_AHEAD = 99;
    private static final int MOST_SHARED = 9_999;
    private static final int MOST_CHANCES = 12;
    private static final int CHANCE_PARTS = 16;
    private static final int MOST_STAKE = 99;
    private static final int MOST_REIGN_DAYS = 48;
    private static final int MOST_SEEDS = 10;
    private static final int TOO_MANY_WORKS = -20;

    private static final int FAULT_PLACE = 1;
    private static final int FAULT_NUMBER = 2;
    private static final int FAULT_TOO_MANY = 3;

    private final Tape tape = new Tape();
    private final Court setting = new Court();
    private final Court draftCourt = new Court();
    private final Law rule = new Law();
    private final Law draftLaw = new Law();
    private final Book lines = new Book();
    private final Book draftBook = new Book();
    private final Plan plan = new Plan();
    private final Hall hall = new Hall(setting, rule);
    private final Past past = new Past();
    private final State now = past.now;
    private final Past[] images = {new Past(), new Past(), new Past()};
    private final Roster giving = new Roster(hall);
    private final Guess guess = new Guess(hall, lines);
    private final Reign trial = new Reign(hall);
    private int imagesKept;
    private int stepsRefused;
    private int elementsRefused;
    private int argumentsRefused;

    public ThroneBacks() {
    }

    public int feed(int a, int b, int c, int d, int e) {
        if (tape.size + BYTES_FED > MOST_BYTES) {
            return NONE;
        }
        tape.put(a);
        tape.put(b);
        tape.put(c);
        tape.put(d);
        tape.put(e);
        return tape.size;
    }

    public int court(int n) throws IllegalArgumentException {
        needTextLength(n, MOST_BYTES);
        tape.open(n);
        if (!draftCourt.readFrom(tape)) {
            return tape.faultAnswer();
        }
        setting.copyFrom(draftCourt);
        rule.beUsual();
        lines.clear();
        past.clear();
        imagesKept = 0;
        stepsRefused = 0;
        return setting.backs;
    }

    public int law(int n) throws IllegalArgumentException {
        needTextLength(n, MOST_SHORT_BYTES);
        tape.open(n);
        if (!draftLaw.readFrom(tape)) {
            return tape.faultAnswer();
        }
        rule.copyFrom(draftLaw);
        return 1;
    }

    public int work(int n) throws IllegalArgumentException {
        needTextLength(n, MOST_SHORT_BYTES);
        if (past.works >= MOST_WORKS) {
            tape.open(0);
            return TOO_MANY_WORKS;
        }
        tape.open(n);
        if (!plan.readFrom(tape, setting)) {
            return tape.faultAnswer();
        }
        past.keepNow();
        int done = plan.carryOut(hall, now);
        stepsRefused = plan.refused;
        return done;
    }

    public int book(int n) throws IllegalArgumentException {
        needTextLength(n, MOST_BOOK_BYTES);
        tape.open(n);
        if (!draftBook.readFrom(tape, setting.backs)) {
            return tape.faultAnswer();
        }
        lines.copyFrom(draftBook);
        return lines.many;
    }

    public int fault() {
        return tape.faultPlace;
    }

    public int undo() {
        if (past.works == 0) {
            return NONE;
        }
        past.takeBack();
        stepsRefused = 0;
        return past.works;
    }

    public int told(int what) throws IllegalArgumentException {
        needWhat(what, 12);
        switch (what) {
            case 0:
                return setting.backs;
            case 1:
                return setting.councils;
            case 2:
                return setting.weight;
            case 3:
                return now.day;
            case 4:
                return now.held;
            case 5:
                return now.fellBits;
            case 6:
                return now.tiredTogether();
            case 7:
                return now.borneTogether();
            case 8:
                return now.knownByAny();
            case 9:
                return lines.many;
            case 10:
                return stepsRefused;
            default:
                return hall.knownByAllWhoStand(now);
        }
    }

    public int back(int back, int what) throws NoSuchElementException, IllegalArgumentException {
        needBack(back);
        needWhat(what, 8);
        switch (what) {
            case 0:
                return setting.strength[back];
            case 1:
                return setting.care[back];
            case 2:
                return now.tired[back];
            case 3:
                return now.hasFallen(back) ? 1 : 0;
            case 4:
                return now.knownBits[back];
            case 5:
                return now.boreTimes[back];
            case 6:
                return now.boreBits[back];
            default:
                return setting.strength[back] - now.tired[back];
        }
    }

    public int council(int council, int what) throws NoSuchElementException, IllegalArgumentException {
        needCouncil(council);
        needWhat(what, 5);
        switch (what) {
            case 0:
                return setting.hours[council];
            case 1:
                return setting.lie[council];
            case 2:
                return now.borneTimes[council];
            case 3:
                return backsWithBit(now.knownBits, council);
            default:
                return backsWithBit(now.boreBits, council);
        }
    }

    public int hearing(int back, int council) throws NoSuchElementException {
        needBack(back);
        needCouncil(council);
        return now.hearingsOf(back, council);
    }

    public int load(int back, int council) throws NoSuchElementException {
        needBack(back);
        needCouncil(council);
        return hall.loadOn(now, back, council, 0);
    }

    public int burden(int back, int council) throws NoSuchElementException {
        needBack(back);
        needCouncil(council);
        return hall.burdenOn(now, back, council, 0);
    }

    public int would(int weight, int held, int lie, int hours, int care, int tired, int knows, int day, int back)
            throws IllegalArgumentException {
        needRange(weight, 1, MOST_WEIGHT);
        needRange(held, 0, MOST_WEIGHT);
        needRange(lie, 0, MOST_LIE);
        needRange(hours, 1, MOST_HOURS);
        needRange(care, 0, MOST_CARE);
        needRange(tired, 0, MOST_TIRED);
        needRange(knows, 0, MOST_COUNCILS);
        needRange(day, 0, LAST_DAY);
        needRange(back, 0, MOST_BACKS - 1);
        rule.tellKing(weight, held, day);
        rule.tellCouncil(lie, hours);
        rule.tellBack(back, care, tired, knows);
        return rule.loadAsTold();
    }

    public int ahead(int n, int what) throws IllegalArgumentException {
        needRange(n, 0, MOST_AHEAD);
        needWhat(what, 2);
        int together = 0;
        int fresh = 0;
        for (int back = 0; back < setting.backs; back++) {
            int tired = hall.tiredIn(now, back, n);
            together += tired;
            fresh |= tired == 0 ? 1 << back : 0;
        }
        return what == 0 ? together : fresh;
    }

    public int could(int back) throws NoSuchElementException {
        needBack(back);
        int bits = 0;
        for (int council = 0; council < setting.councils; council++) {
            bits |= hall.bearsIn(now, back, council, 0) ? 1 << council : 0;
        }
        return bits;
    }

    public int roster(int councils) throws IllegalArgumentException {
        needRosterBits(councils);
        giving.search(now, councils);
        return giving.leastSum;
    }

    public int gives(int council, int councils) throws NoSuchElementException, IllegalArgumentException {
        needCouncil(council);
        needRosterBits(councils);
        giving.search(now, councils);
        return giving.givenTo(council);
    }

    public int word(int council) throws NoSuchElementException {
        needCouncil(council);
        int standing = setting.backBits() & ~now.fellBits;
        int knowing = backsWithBit(now.knownBits, council) & standing;
        if (standing != 0 && knowing == 0) {
            return NONE;
        }
        // Each telling brings the council to one back at most, and a knowing one can tell each of the others.
        return Integer.bitCount(standing) - Integer.bitCount(knowing);
    }

    public int ease(int councils, int n) throws IllegalArgumentException {
        needBits(councils, setting.councilBits());
        needRange(n, 0, MOST_SHARED);
        int highest = setting.weight + MOST_LIE;
        for (int bound = 0; bound < highest; bound++) {
            if (isEasedTo(bound, councils, n)) {
                return bound;
            }
        }
        return highest;
    }

    public int fits(int what) throws IllegalArgumentException {
        needWhat(what, 2);
        guess.findFits(now);
        return what == 0 ? guess.pairs : guess.firstPair;
    }

    public int look(int what) throws IllegalArgumentException {
        needWhat(what, 2);
        guess.findLook(now);
        return what == 0 ? guess.lookAt : guess.leftAtWorst;
    }

    public int quorum(int q, int what) throws IllegalArgumentException {
        needRange(q, 1, MOST_BACKS * MOST_STRENGTH);
        needWhat(what, 2);
        int found = 0;
        for (int set = 1; set < 1 << setting.backs; set++) {
            boolean enough = (set & now.fellBits) == 0 && strengthOf(set) >= q;
            if (enough && (what == 0 || needsEach(set, q))) {
                found++;
            }
        }
        return found;
    }

    public long lies(int n, int k, int q, int half) throws IllegalArgumentException {
        needRange(n, 0, MOST_CHANCES);
        needRange(k, 0, MOST_CHANCES + 1);
        needRange(q, 0, CHANCE_PARTS);
        needWhat(half, 2);
        long above = 0;
        for (int lies = k; lies <= n; lies++) {
            above += choices(n, lies) * power(q, lies) * power(CHANCE_PARTS - q, n - lies);
        }
        long below = power(CHANCE_PARTS, n);
        // Below is a power of two, so halving both is all that least terms can ask for.
        while (below > 1 && above % 2 == 0) {
            above /= 2;
            below /= 2;
        }
        return half == 0 ? above : below;
    }

    public int kneel(int v, int w, int what) throws IllegalArgumentException {
        needRange(v, 0, MOST_STAKE);
        needRange(w, 0, MOST_STAKE);
        needWhat(what, 3);
        int rests = 0;
        int first = NONE;
        int together = 0;
        for (int one = 0; one < 2; one++) {
            for (int other = 0; other < 2; other++) {
                if (!isRest(one, other, v, w)) {
                    continue;
                }
                if (rests == 0) {
                    first = 10 * one + other;
                    together = hasBy(one, other, v, w) + hasBy(other, one, v, w);
                }
                rests++;
            }
        }
        return what == 0 ? rests : what == 1 ? first : together;
    }

    public int balm(int back, int backs, int n) throws NoSuchElementException, IllegalArgumentException {
        needBack(back);
        needBits(backs, setting.backBits());
        needRange(n, 0, MOST_SHARED);
        if ((backs >> back & 1) == 0) {
            return 0;
        }
        int bound = 0;
        // Only a bound below what this back could take changes its share.
        while (bound < now.tired[back] && balmGiven(backs, bound + 1) <= n) {
            bound++;
        }
        return bound;
    }

    public int weariest(int what) throws IllegalArgumentException {
        needWhat(what, 2);
        int found = NONE;
        int most = NONE;
        for (int back = 0; back < setting.backs; back++) {
            if (now.tired[back] > most) {
                found = back;
                most = now.tired[back];
            }
        }
        return what == 0 ? found : most;
    }

    public int heaviest(int back, int what) throws NoSuchElementException, IllegalArgumentException {
        needBack(back);
        needWhat(what, 2);
        int found = NONE;
        int most = NONE;
        for (int council = 0; council < setting.councils; council++) {
            int burden = hall.burdenOn(now, back, council, 0);
            if (burden > most) {
                found = council;
                most = burden;
            }
        }
        return what == 0 ? found : most;
    }

    public int listeners(int back) throws NoSuchElementException {
        needBack(back);
        int bits = 0;
        for (int other = 0; other < setting.backs; other++) {
            bits |= now.hasNewsFor(back, other) ? 1 << other : 0;
        }
        return bits;
    }

    public int ready(int back, int council) throws NoSuchElementException {
        needBack(back);
        needCouncil(council);
        for (int days = 0; days <= MOST_AHEAD; days++) {
            if (hall.bearsIn(now, back, council, days)) {
                return days;
            }
        }
        return NONE;
    }

    public int sure(int back, int what) throws NoSuchElementException, IllegalArgumentException {
        needBack(back);
        needWhat(what, 2);
        int ofItself = 0;
        for (int council = 0; council < setting.councils; council++) {
            ofItself |= now.hearingsOf(back, council) == 0 ? 1 << council : 0;
        }
        return what == 0 ? ofItself : now.knownBits[back] & ~ofItself;
    }

    public int bearers(int council) throws NoSuchElementException {
        needCouncil(council);
        int bits = 0;
        for (int back = 0; back < setting.backs; back++) {
            bits |= hall.bearsIn(now, back, council, 0) ? 1 << back : 0;
        }
        return bits;
    }

    public int rumour(int council, int what) throws NoSuchElementException, IllegalArgumentException {
        needCouncil(council);
        needWhat(what, 2);
        int found = NONE;
        int most = NONE;
        for (int back = 0; back < setting.backs; back++) {
            int hearings = now.hearingsOf(back, council);
            if (hearings > most) {
                found = back;
                most = hearings;
            }
        }
        return what == 0 ? found : most;
    }

    public int lied(int n, int what) throws IllegalArgumentException {
        needRange(n, 0, MOST_LIE);
        needWhat(what, 2);
        int bits = 0;
        for (int council = 0; council < setting.councils; council++) {
            boolean borne = now.borneTimes[council] > 0;
            if (setting.lie[council] >= n && borne == (what == 0)) {
                bits |= 1 << council;
            }
        }
        return bits;
    }

    public int reign(int seed, int q, int days, int what) throws IllegalArgumentException {
        needRange(q, 0, CHANCE_PARTS);
        needRange(days, 1, MOST_REIGN_DAYS);
        needWhat(what, 4);
        trial.run(now, seed, q, days);
        switch (what) {
            case 0:
                return trial.borne;
            case 1:
                return trial.state.fellBits;
            case 2:
                return trial.state.tiredTogether();
            default:
                return trial.state.knownByAny();
        }
    }

    public int span(int seed, int many, int q, int days, int what, int back) throws IllegalArgumentException {
        needRange(many, 1, MOST_SEEDS);
        needRange(q, 0, CHANCE_PARTS);
        needRange(days, 1, MOST_REIGN_DAYS);
        needWhat(what, 3);
        needRange(back, 0, setting.backs - 1);
        int fewest = 0;
        int most = 0;
        int lying = 0;
        for (int i = 0; i < many; i++) {
            trial.run(now, seed + i, q, days);
            fewest = i == 0 ? trial.borne : Math.min(fewest, trial.borne);
            most = Math.max(most, trial.borne);
            lying += trial.state.hasFallen(back) ? 1 : 0;
        }
        return what == 0 ? fewest : what == 1 ? most : lying;
    }

    public int image() {
        if (imagesKept >= MOST_IMAGES) {
            return NONE;
        }
        images[imagesKept].copyFrom(past);
        imagesKept++;
        return imagesKept;
    }

    public int restore() {
        if (imagesKept == 0) {
            return NONE;
        }
        imagesKept--;
        past.copyFrom(images[imagesKept]);
        stepsRefused = 0;
        return imagesKept;
    }

    public int status(int what) {
        switch (what) {
            case 0:
                return elementsRefused;
            case 1:
                return argumentsRefused;
            default:
                return NONE;
        }
    }

    public int count(int what) {
        switch (what) {
            case 0:
                return imagesKept;
            case 1:
                return tape.size;
            case 2:
                return past.works;
            default:
                return NONE;
        }
    }

    private void needBack(int back) {
        if (back < 0 || back >= setting.backs) {
            elementsRefused++;
            throw new NoSuchElementException("no such back");
        }
    }

    private void needCouncil(int council) {
        if (council < 0 || council >= setting.councils) {
            elementsRefused++;
            throw new NoSuchElementException("no such council");
        }
    }

    private void needRange(int number, int least, int most) {
        if (number < least || number > most) {
            argumentsRefused++;
            throw new IllegalArgumentException("a number outside its range");
        }
    }

    private void needWhat(int what, int kinds) {
        needRange(what, 0, kinds - 1);
    }

    private void needTextLength(int n, int most) {
        needRange(n, 0, Math.min(most, tape.size));
    }

    private void needBits(int bits, int allowed) {
        if ((bits & ~allowed) != 0) {
            argumentsRefused++;
            throw new IllegalArgumentException("bits of none such");
        }
    }

    private void needRosterBits(int councils) {
        needBits(councils, setting.councilBits());
        needRange(Integer.bitCount(councils), 0, MOST_ROSTER);
    }

    private int backsWithBit(int[] bitsOfBacks, int council) {
        int backs = 0;
        for (int back = 0; back < setting.backs; back++) {
            backs |= (bitsOfBacks[back] >> council & 1) << back;
        }
        return backs;
    }

    private boolean isEasedTo(int bound, int councils, int n) {
        int spent = 0;
        for (int council = 0; council < setting.councils; council++) {
            if ((councils >> council & 1) == 0) {
                continue;
            }
            if (setting.lie[council] > bound) {
                return false;
            }
            int held = Math.max(0, setting.weight + setting.lie[council] - bound);
            spent += setting.hours[council] * held;
        }
        return spent <= n;
    }

    private int strengthOf(int set) {
        int together = 0;
        for (int back = 0; back < setting.backs; back++) {
            together += (set >> back & 1) * setting.strength[back];
        }
        return together;
    }

    private boolean needsEach(int set, int q) {
        int together = strengthOf(set);
        for (int back = 0; back < setting.backs; back++) {
            if ((set >> back & 1) == 1 && together - setting.strength[back] >= q) {
                return false;
            }
        }
        return true;
    }

    private int balmGiven(int backs, int bound) {
        int given = 0;
        for (int back = 0; back < setting.backs; back++) {
            given += (backs >> back & 1) * Math.min(now.tired[back], bound);
        }
        return given;
    }

    private static long choices(int n, int taken) {
        long ways = 1;
        for (int i = 0; i < taken; i++) {
            ways = ways * (n - i) / (i + 1);
        }
        return ways;
    }

    private static long power(int base, int times) {
        long product = 1;
        for (int i = 0; i < times; i++) {
            product *= base;
        }
        return product;
    }

    private static int hasBy(int own, int others, int v, int w) {
        if (own == others) {
            return 0;
        }
        return own == 0 ? v : -w;
    }

    private static boolean isRest(int one, int other, int v, int w) {
        return hasBy(one, other, v, w) >= hasBy(1 - one, other, v, w)
            && hasBy(other, one, v, w) >= hasBy(1 - other, one, v, w);
    }

    /**
     * The bytes that were fed, and the reading of a text from them. Blanks are skipped behind each thing that is
     * read, so that the place is always that of the next thing, or the length.
     */
    private static final class Tape {
        private static final int ENOUGH = 99_999;

        private final byte[] bytes = new byte[MOST_BYTES];
        private int size;
        private int end;
        private int at;
        private int wordFrom;
        private int wordTo;
        private int faultKind;
        private int faultPlace = NONE;

        void put(int number) {
            for (int shift = 24; shift >= 0 && size < MOST_BYTES; shift -= 8) {
                bytes[size] = (byte) (number >>> shift);
                size++;
            }
        }

        void open(int n) {
            size = 0;
            end = n;
            at = 0;
            faultKind = 0;
            faultPlace = NONE;
            skipBlanks();
        }

        int faultAnswer() {
            return faultKind - 10;
        }

        boolean isAtEnd() {
            return at >= end;
        }

        boolean isAt(char sign) {
            return at < end && bytes[at] == sign;
        }

        boolean isAtDigit() {
            return at < end && bytes[at] >= '0' && bytes[at] <= '9';
        }

        /** The next byte; 0 at the end, which is no sign of any text. */
        int sign() {
            return at < end ? bytes[at] : 0;
        }

        void step() {
            if (at < end) {
                at++;
            }
            skipBlanks();
        }

        boolean needSign(char sign) {
            if (!isAt(sign)) {
                return fail(FAULT_PLACE, at);
            }
            at++;
            skipBlanks();
            return true;
        }

        int needNumber(int least, int most) {
            int from = at;
            int value = 0;
            while (at < end && isAtDigit()) {
                value = Math.min(ENOUGH, 10 * value + bytes[at] - '0');
                at++;
            }
            boolean isNumber = at > from;
            if (!isNumber || value < least || value > most) {
                fail(isNumber ? FAULT_NUMBER : FAULT_PLACE, from);
                return NONE;
            }
            skipBlanks();
            return value;
        }

        void takeWord() {
            wordFrom = at;
            while (at < end && bytes[at] >= 'a' && bytes[at] <= 'z') {
                at++;
            }
            wordTo = at;
            skipBlanks();
        }

        boolean isWord(String word) {
            if (wordTo - wordFrom != word.length()) {
                return false;
            }
            for (int i = 0; i < word.length(); i++) {
                if (bytes[wordFrom + i] != word.charAt(i)) {
                    return false;
                }
            }
            return true;
        }

        boolean failHere(int kind) {
            return fail(kind, at);
        }

        boolean failWord(int kind) {
            return fail(kind, wordFrom);
        }

        boolean fail(int kind, int place) {
            faultKind = kind;
            faultPlace = place;
            return false;
        }

        private void skipBlanks() {
            while (at < end && bytes[at] == ' ') {
                at++;
            }
        }
    }

    /** Who is there: what a court's text told. */
    private static final class Court {
        private final int[] strength = new int[MOST_BACKS];
        private final int[] care = new int[MOST_BACKS];
        private final int[] hours = new int[MOST_COUNCILS];
        private final int[] lie = new int[MOST_COUNCILS];
        private int backs;
        private int councils;
        private int weight = USUAL_WEIGHT;

        void copyFrom(Court other) {
            System.arraycopy(other.strength, 0, strength, 0, MOST_BACKS);
            System.arraycopy(other.care, 0, care, 0, MOST_BACKS);
            System.arraycopy(other.hours, 0, hours, 0, MOST_COUNCILS);
            System.arraycopy(other.lie, 0, lie, 0, MOST_COUNCILS);
            backs = other.backs;
            councils = other.councils;
            weight = other.weight;
        }

        int backBits() {
            return (1 << backs) - 1;
        }

        int councilBits() {
            return (1 << councils) - 1;
        }

        boolean readFrom(Tape tape) {
            backs = 0;
            councils = 0;
            weight = USUAL_WEIGHT;
            for (int clauses = 0; clauses <= MOST_CLAUSES; clauses++) {
                if (tape.isAtEnd()) {
                    return true;
                }
                if (!readClause(tape, clauses) || !tape.needSign(';')) {
                    return false;
                }
            }
            return false;
        }

        private boolean readClause(Tape tape, int before) {
            tape.takeWord();
            boolean isBack = tape.isWord("back");
            boolean isCouncil = tape.isWord("council");
            if (!isBack && !isCouncil && !tape.isWord("king")) {
                return tape.failWord(FAULT_PLACE);
            }
            boolean full = isBack && backs >= MOST_BACKS || isCouncil && councils >= MOST_COUNCILS;
            if (full || before >= MOST_CLAUSES) {
                return tape.failWord(FAULT_TOO_MANY);
            }
            return isBack ? readBack(tape) : isCouncil ? readCouncil(tape) : readKing(tape);
        }

        private boolean readBack(Tape tape) {
            int ownStrength = tape.needNumber(1, MOST_STRENGTH);
            if (ownStrength == NONE) {
                return false;
            }
            int ownCare = tape.needNumber(0, MOST_CARE);
            if (ownCare == NONE) {
                return false;
            }
            strength[backs] = ownStrength;
            care[backs] = ownCare;
            backs++;
            return true;
        }

        private boolean readCouncil(Tape tape) {
            int ownHours = tape.needNumber(1, MOST_HOURS);
            if (ownHours == NONE) {
                return false;
            }
            int ownLie = tape.needNumber(0, MOST_LIE);
            if (ownLie == NONE) {
                return false;
            }
            hours[councils] = ownHours;
            lie[councils] = ownLie;
            councils++;
            return true;
        }

        private boolean readKing(Tape tape) {
            weight = tape.needNumber(1, MOST_WEIGHT);
            return weight != NONE;
        }
    }

    /** How heavy the king is: the law's text as a row in which an operator stands behind what it works on. */
    private static final class Law {
        private static final int WEIGHT = 1000;
        private static final int HELD = 1001;
        private static final int LIE = 1002;
        private static final int HOURS = 1003;
        private static final int CARE = 1004;
        private static final int TIRED = 1005;
        private static final int KNOWS = 1006;
        private static final int DAY = 1007;
        private static final int BACK = 1008;
        private static final int THINGS = 9;
        private static final int LEAST = 2000;
        private static final int MOST = 2001;

        private final int[] row = new int[MOST_SHORT_BYTES];
        private final int[] things = new int[THINGS];
        private final int[] values = new int[MOST_SHORT_BYTES];
        private int size;

        Law() {
            beUsual();
        }

        void beUsual() {
            size = 0;
            add(WEIGHT);
            add(HELD);
            add('-' + LEAST);
            add(LIE);
            add('+' + LEAST);
        }

        void copyFrom(Law other) {
            System.arraycopy(other.row, 0, row, 0, MOST_SHORT_BYTES);
            size = other.size;
        }

        boolean readFrom(Tape tape) {
            size = 0;
            if (!readSum(tape, 0)) {
                return false;
            }
            return tape.isAtEnd() || tape.failHere(FAULT_PLACE);
        }

        void tellKing(int weight, int held, int day) {
            things[WEIGHT - WEIGHT] = weight;
            things[HELD - WEIGHT] = held;
            things[DAY - WEIGHT] = day;
        }

        void tellCouncil(int lie, int hours) {
            things[LIE - WEIGHT] = lie;
            things[HOURS - WEIGHT] = hours;
        }

        void tellBack(int back, int care, int tired, int knows) {
            things[BACK - WEIGHT] = back;
            things[CARE - WEIGHT] = care;
            things[TIRED - WEIGHT] = tired;
            things[KNOWS - WEIGHT] = knows;
        }

        int loadAsTold() {
            int many = 0;
            for (int i = 0; i < size; i++) {
                int code = row[i];
                if (code < LEAST) {
                    values[many] = code < WEIGHT ? code : things[code - WEIGHT];
                    many++;
                } else if (many >= 2) {
                    many--;
                    values[many - 1] = outcome(code, values[many - 1], values[many]);
                }
            }
            int load = many > 0 ? values[0] : 0;
            return load < 0 ? 0 : load > MOST_LOAD ? MOST_LOAD : load;
        }

        private static int outcome(int operator, int left, int right) {
            switch (operator) {
                case LEAST:
                    return left < right ? left : right;
                case MOST:
                    return left > right ? left : right;
                case LEAST + '+':
                    return left + right;
                case LEAST + '-':
                    return left - right;
                case LEAST + '*':
                    return left * right;
                case LEAST + '/':
                    return right == 0 ? 0 : left / right;
                default:
                    return right == 0 ? 0 : left % right;
            }
        }

        /** Each thing in the row took a byte of the text or more, so the row is never full ahead of the text's end. */
        private boolean add(int code) {
            if (size < MOST_SHORT_BYTES) {
                row[size] = code;
                size++;
            }
            return true;
        }

        private boolean readSum(Tape tape, int open) {
            if (!readProduct(tape, open)) {
                return false;
            }
            for (int i = 0; i < MOST_SHORT_BYTES && (tape.isAt('+') || tape.isAt('-')); i++) {
                int sign = tape.sign();
                tape.step();
                if (!readProduct(tape, open)) {
                    return false;
                }
                add(LEAST + sign);
            }
            return true;
        }

        private boolean readProduct(Tape tape, int open) {
            if (!readUnit(tape, open)) {
                return false;
            }
            for (int i = 0; i < MOST_SHORT_BYTES && (tape.isAt('*') || tape.isAt('/') || tape.isAt('%')); i++) {
                int sign = tape.sign();
                tape.step();
                if (!readUnit(tape, open)) {
                    return false;
                }
                add(LEAST + sign);
            }
            return true;
        }

        private boolean readUnit(Tape tape, int open) {
            if (tape.isAtDigit()) {
                int number = tape.needNumber(0, MOST_NUMBER);
                return number != NONE && add(number);
            }
            if (tape.isAt('(')) {
                return readInner(tape, open);
            }
            tape.takeWord();
            boolean isLeast = tape.isWord("least");
            if (isLeast || tape.isWord("most")) {
                return readPair(tape, open) && add(isLeast ? LEAST : MOST);
            }
            int thing = thingOf(tape);
            return thing == NONE ? tape.failWord(FAULT_PLACE) : add(thing);
        }

        private boolean readInner(Tape tape, int open) {
            if (open >= MOST_OPEN) {
                return tape.failHere(FAULT_TOO_MANY);
            }
            tape.step();
            return readSum(tape, open + 1) && tape.needSign(')');
        }

        private boolean readPair(Tape tape, int open) {
            if (open >= MOST_OPEN) {
                return tape.failWord(FAULT_TOO_MANY);
            }
            return tape.needSign('[') && readSum(tape, open + 1)
                && tape.needSign(',') && readSum(tape, open + 1) && tape.needSign(']');
        }

        private static int thingOf(Tape tape) {
            if (tape.isWord("weight")) {
                return WEIGHT;
            }
            if (tape.isWord("held")) {
                return HELD;
            }
            if (tape.isWord("lie")) {
                return LIE;
            }
            if (tape.isWord("hours")) {
                return HOURS;
            }
            if (tape.isWord("care")) {
                return CARE;
            }
            if (tape.isWord("tired")) {
                return TIRED;
            }
            if (tape.isWord("knows")) {
                return KNOWS;
            }
            if (tape.isWord("day")) {
                return DAY;
            }
            return tape.isWord("back") ? BACK : NONE;
        }
    }

    /** How tired some backs were seen to be. */
    private static final class Book {
        private final int[] tired = new int[MOST_BACKS];
        private int many;

        Book() {
            clear();
        }

        void clear() {
            Arrays.fill(tired, NONE);
            many = 0;
        }

        void copyFrom(Book other) {
            System.arraycopy(other.tired, 0, tired, 0, MOST_BACKS);
            many = other.many;
        }

        boolean hasLine(int back) {
            return tired[back] != NONE;
        }

        boolean readFrom(Tape tape, int backs) {
            clear();
            for (int i = 0; i < MOST_BOOK_BYTES && !tape.isAtEnd(); i++) {
                if (!readLine(tape, backs) || !tape.needSign(';')) {
                    return false;
                }
            }
            return true;
        }

        private boolean readLine(Tape tape, int backs) {
            int place = tape.at;
            int back = tape.needNumber(0, backs - 1);
            if (back == NONE) {
                return false;
            }
            if (hasLine(back)) {
                return tape.fail(FAULT_NUMBER, place);
            }
            int seen = tape.needNumber(0, MOST_TIRED);
            if (seen == NONE) {
                return false;
            }
            tired[back] = seen;
            many++;
            return true;
        }
    }

    /** A work's steps in a row; an again stands ahead of its steps and an end behind them, each with the other's place. */
    private static final class Plan {
        private static final int SIT = 0;
        private static final int TELL = 1;
        private static final int HOLD = 2;
        private static final int REST = 3;
        private static final int DAY = 4;
        private static final int AGAIN = 5;
        private static final int END = 6;
        /** Far above 200 steps begun, each of them an again of 40 turns. */
        private static final int MOST_MOVES = 1_000_000;

        private final int[] kind = new int[MOST_SHORT_BYTES];
        private final int[] first = new int[MOST_SHORT_BYTES];
        private final int[] second = new int[MOST_SHORT_BYTES];
        private final int[] turnsLeft = new int[MOST_OPEN];
        private int size;
        private int open;
        private int refused;

        boolean readFrom(Tape tape, Court court) {
            size = 0;
            return readSteps(tape, court, 0);
        }

        /** How many steps were done. */
        int carryOut(Hall hall, State state) {
            int begun = 0;
            int done = 0;
            int at = 0;
            open = 0;
            refused = 0;
            for (int moves = 0; moves < MOST_MOVES && at < size; moves++) {
                if (kind[at] == END) {
                    at = turn(at);
                    continue;
                }
                if (begun >= MOST_BEGUN) {
                    break;
                }
                begun++;
                if (kind[at] == AGAIN) {
                    at = enter(at);
                    continue;
                }
                if (begin(hall, state, at)) {
                    done++;
                } else {
                    refused++;
                }
                at++;
            }
            return done;
        }

        /** The place to go on at, from an again. */
        private int enter(int head) {
            if (first[head] == 0 || open >= MOST_OPEN) {
                return second[head] + 1;
            }
            turnsLeft[open] = first[head] - 1;
            open++;
            return head + 1;
        }

        /** The place to go on at, from an end. */
        private int turn(int end) {
            if (open > 0 && turnsLeft[open - 1] > 0) {
                turnsLeft[open - 1]--;
                return first[end] + 1;
            }
            open = Math.max(0, open - 1);
            return end + 1;
        }

        private boolean begin(Hall hall, State state, int at) {
            switch (kind[at]) {
                case SIT:
                    return hall.sit(state, first[at], second[at]);
                case TELL:
                    return state.tell(first[at], second[at]);
                case HOLD:
                    return hall.hold(state, first[at]);
                case REST:
                    return state.rest(first[at]);
                default:
                    return hall.dawn(state);
            }
        }

        private boolean readSteps(Tape tape, Court court, int depth) {
            for (int i = 0; i < MOST_SHORT_BYTES; i++) {
                if (depth > 0 ? tape.isAt(']') : tape.isAtEnd()) {
                    return true;
                }
                if (!readStep(tape, court, depth) || !tape.needSign(';')) {
                    return false;
                }
            }
            return tape.isAtEnd();
        }

        private boolean readStep(Tape tape, Court court, int depth) {
            tape.takeWord();
            if (tape.isWord("sit")) {
                return readNumbers(tape, SIT, court.backs - 1, court.councils - 1);
            }
            if (tape.isWord("tell")) {
                return readNumbers(tape, TELL, court.backs - 1, court.backs - 1);
            }
            if (tape.isWord("hold")) {
                return readNumber(tape, HOLD, MOST_WEIGHT);
            }
            if (tape.isWord("rest")) {
                return readNumber(tape, REST, court.backs - 1);
            }
            if (tape.isWord("day")) {
                return add(DAY, 0, 0);
            }
            return tape.isWord("again") ? readAgain(tape, court, depth) : tape.failWord(FAULT_PLACE);
        }

        private boolean readNumber(Tape tape, int step, int most) {
            int number = tape.needNumber(0, most);
            return number != NONE && add(step, number, 0);
        }

        private boolean readNumbers(Tape tape, int step, int mostFirst, int mostSecond) {
            int one = tape.needNumber(0, mostFirst);
            if (one == NONE) {
                return false;
            }
            int other = tape.needNumber(0, mostSecond);
            return other != NONE && add(step, one, other);
        }

        private boolean readAgain(Tape tape, Court court, int depth) {
            if (depth >= MOST_OPEN) {
                return tape.failWord(FAULT_TOO_MANY);
            }
            int head = size;
            if (!readNumber(tape, AGAIN, MOST_TURNS) || !tape.needSign('[')) {
                return false;
            }
            if (!readSteps(tape, court, depth + 1) || !tape.needSign(']')) {
                return false;
            }
            if (head < MOST_SHORT_BYTES) {
                second[head] = size;
            }
            return add(END, head, 0);
        }

        /** Each step, and each end, took a byte of the text or more, so the rows are never full ahead of its end. */
        private boolean add(int step, int one, int other) {
            if (size < MOST_SHORT_BYTES) {
                kind[size] = step;
                first[size] = one;
                second[size] = other;
                size++;
            }
            return true;
        }
    }

    /** All that work changes. */
    private static final class State {
        private final int[] tired = new int[MOST_BACKS];
        private final int[] boreTimes = new int[MOST_BACKS];
        private final int[] boreBits = new int[MOST_BACKS];
        private final int[] knownBits = new int[MOST_BACKS];
        private final int[] hearings = new int[MOST_BACKS * MOST_COUNCILS];
        private final int[] borneTimes = new int[MOST_COUNCILS];
        private int fellBits;
        private int day;
        private int held;

        void clear() {
            Arrays.fill(tired, 0);
            Arrays.fill(boreTimes, 0);
            Arrays.fill(boreBits, 0);
            Arrays.fill(knownBits, 0);
            Arrays.fill(hearings, 0);
            Arrays.fill(borneTimes, 0);
            fellBits = 0;
            day = 0;
            held = 0;
        }

        void copyFrom(State other) {
            System.arraycopy(other.tired, 0, tired, 0, MOST_BACKS);
            System.arraycopy(other.boreTimes, 0, boreTimes, 0, MOST_BACKS);
            System.arraycopy(other.boreBits, 0, boreBits, 0, MOST_BACKS);
            System.arraycopy(other.knownBits, 0, knownBits, 0, MOST_BACKS);
            System.arraycopy(other.hearings, 0, hearings, 0, MOST_BACKS * MOST_COUNCILS);
            System.arraycopy(other.borneTimes, 0, borneTimes, 0, MOST_COUNCILS);
            fellBits = other.fellBits;
            day = other.day;
            held = other.held;
        }

        boolean hasFallen(int back) {
            return (fellBits >> back & 1) == 1;
        }

        int hearingsOf(int back, int council) {
            boolean knows = (knownBits[back] >> council & 1) == 1;
            return knows ? hearings[back * MOST_COUNCILS + council] : NONE;
        }

        void learn(int back, int council, int byHearings) {
            knownBits[back] |= 1 << council;
            hearings[back * MOST_COUNCILS + council] = byHearings;
        }

        void bear(int back, int council, int burden) {
            tired[back] += burden;
            boreTimes[back]++;
            boreBits[back] |= 1 << council;
            borneTimes[council]++;
        }

        boolean hasNewsFor(int teller, int other) {
            return teller != other && !hasFallen(teller) && !hasFallen(other)
                && (knownBits[teller] & ~knownBits[other]) != 0;
        }

        boolean tell(int teller, int other) {
            if (!hasNewsFor(teller, other)) {
                return false;
            }
            int news = knownBits[teller] & ~knownBits[other];
            for (int council = 0; council < MOST_COUNCILS; council++) {
                if ((news >> council & 1) == 1) {
                    learn(other, council, Math.min(MOST_HEARINGS, hearingsOf(teller, council) + 1));
                }
            }
            return true;
        }

        boolean rest(int back) {
            if (tired[back] == 0) {
                return false;
            }
            tired[back] /= 2;
            fellBits &= ~(1 << back);
            return true;
        }

        int tiredTogether() {
            int together = 0;
            for (int own : tired) {
                together += own;
            }
            return together;
        }

        int borneTogether() {
            int together = 0;
            for (int times : borneTimes) {
                together += times;
            }
            return together;
        }

        int knownByAny() {
            int bits = 0;
            for (int own : knownBits) {
                bits |= own;
            }
            return bits;
        }
    }

    /** The state now, and the states ahead of each work that can be undone. */
    private static final class Past {
        private final State now = new State();
        private final State[] before = new State[MOST_WORKS];
        private int works;

        Past() {
            for (int i = 0; i < MOST_WORKS; i++) {
                before[i] = new State();
            }
        }

        void clear() {
            now.clear();
            works = 0;
        }

        void copyFrom(Past other) {
            now.copyFrom(other.now);
            for (int i = 0; i < other.works && i < MOST_WORKS; i++) {
                before[i].copyFrom(other.before[i]);
            }
            works = other.works;
        }

        void keepNow() {
            if (works < MOST_WORKS) {
                before[works].copyFrom(now);
                works++;
            }
        }

        void takeBack() {
            if (works > 0) {
                works--;
                now.copyFrom(before[works]);
            }
        }
    }

    /** What a state means in this court, by its law. */
    private static final class Hall {
        private final Court court;
        private final Law law;

        Hall(Court court, Law law) {
            this.court = court;
            this.law = law;
        }

        int restOfDay(int back) {
            return 5 + court.care[back];
        }

        int tiredIn(State state, int back, int days) {
            return Math.max(0, state.tired[back] - days * restOfDay(back));
        }

        int loadOn(State state, int back, int council, int days) {
            law.tellKing(court.weight, state.held, state.day + days);
            law.tellCouncil(court.lie[council], court.hours[council]);
            int knows = Integer.bitCount(state.knownBits[back]);
            law.tellBack(back, court.care[back], tiredIn(state, back, days), knows);
            return law.loadAsTold();
        }

        int burdenOn(State state, int back, int council, int days) {
            return loadOn(state, back, council, days) * court.hours[council] / 4;
        }

        /** Whether a back, had so many days gone by, would bear a council and not fall. */
        boolean bearsIn(State state, int back, int council, int days) {
            if (state.hasFallen(back)) {
                return false;
            }
            int tired = tiredIn(state, back, days) + burdenOn(state, back, council, days);
            return tired <= court.strength[back];
        }

        boolean sit(State state, int back, int council) {
            if (state.hasFallen(back)) {
                return false;
            }
            state.bear(back, council, burdenOn(state, back, council, 0));
            if (state.tired[back] > court.strength[back]) {
                state.fellBits |= 1 << back;
            } else if (court.lie[council] + court.care[back] >= 10) {
                state.learn(back, council, 0);
            }
            return true;
        }

        boolean hold(State state, int by) {
            if (state.held == by || by > court.weight) {
                return false;
            }
            state.held = by;
            return true;
        }

        boolean dawn(State state) {
            if (state.day >= LAST_DAY) {
                return false;
            }
            passDay(state);
            return true;
        }

        void passDay(State state) {
            for (int back = 0; back < court.backs; back++) {
                state.tired[back] = tiredIn(state, back, 1);
            }
            state.day++;
        }

        int knownByAllWhoStand(State state) {
            int bits = court.councilBits();
            for (int back = 0; back < court.backs; back++) {
                bits &= state.hasFallen(back) ? bits : state.knownBits[back];
            }
            return bits;
        }
    }

    /** The search for the roster of least burdens. */
    private static final class Roster {
        private final Hall hall;
        private final int[] councils = new int[MOST_ROSTER];
        private final int[] burdens = new int[MOST_ROSTER * MOST_BACKS];
        private final int[] leastFrom = new int[MOST_ROSTER + 1];
        private final int[] room = new int[MOST_BACKS];
        private final int[] given = new int[MOST_ROSTER];
        private final int[] best = new int[MOST_ROSTER];
        private int many;
        private int leastSum;

        Roster(Hall hall) {
            this.hall = hall;
        }

        void search(State state, int bits) {
            many = 0;
            leastSum = NONE;
            for (int council = 0; council < hall.court.councils && many < MOST_ROSTER; council++) {
                if ((bits >> council & 1) == 1) {
                    councils[many] = council;
                    many++;
                }
            }
            for (int back = 0; back < hall.court.backs; back++) {
                // No burden is below 0, so one who lies with room below 0 is given nothing.
                room[back] = state.hasFallen(back) ? -1 : hall.court.strength[back] - state.tired[back];
            }
            if (weigh(state)) {
                give(0, 0);
            }
        }

        int givenTo(int council) {
            for (int i = 0; i < many; i++) {
                if (councils[i] == council && leastSum != NONE) {
                    return best[i];
                }
            }
            return NONE;
        }

        /** False if no back could bear one of them. */
        private boolean weigh(State state) {
            leastFrom[many] = 0;
            for (int i = many - 1; i >= 0; i--) {
                int least = NONE;
                for (int back = 0; back < hall.court.backs; back++) {
                    int burden = hall.burdenOn(state, back, councils[i], 0);
                    burdens[i * MOST_BACKS + back] = burden;
                    if (burden <= room[back] && (least == NONE || burden < least)) {
                        least = burden;
                    }
                }
                if (least == NONE) {
                    return false;
                }
                leastFrom[i] = leastFrom[i + 1] + least;
            }
            return true;
        }

        /** Ways come in the order of their backs, so a later one must be better, not alike. */
        private void give(int i, int sum) {
            if (i >= many) {
                leastSum = sum;
                System.arraycopy(given, 0, best, 0, MOST_ROSTER);
                return;
            }
            for (int back = 0; back < hall.court.backs; back++) {
                int burden = burdens[i * MOST_BACKS + back];
                boolean better = leastSum == NONE || sum + burden + leastFrom[i + 1] < leastSum;
                if (better && burden <= room[back]) {
                    room[back] -= burden;
                    given[i] = back;
                    give(i + 1, sum + burden);
                    room[back] += burden;
                }
            }
        }
    }

    /** Which council it was that a back has borne, by the book's lines. */
    private static final class Guess {
        private static final int MOST_BURDEN = MOST_LOAD * MOST_HOURS / 4;

        private final Hall hall;
        private final Book book;
        private final int[] tally = new int[MOST_BURDEN + 1];
        private int pairs;
        private int firstPair;
        private int lookAt;
        private int leftAtWorst;

        Guess(Hall hall, Book book) {
            this.hall = hall;
            this.book = book;
        }

        void findFits(State state) {
            pairs = 0;
            firstPair = NONE;
            for (int back = 0; back < hall.court.backs; back++) {
                for (int council = 0; council < hall.court.councils; council++) {
                    if (isRight(state, back, added(state, back, council))) {
                        firstPair = pairs == 0 ? 100 * back + council : firstPair;
                        pairs++;
                    }
                }
            }
        }

        void findLook(State state) {
            findFits(state);
            lookAt = NONE;
            leftAtWorst = NONE;
            for (int back = 0; back < hall.court.backs; back++) {
                if (book.hasLine(back)) {
                    continue;
                }
                int left = worstLeft(state, back);
                if (lookAt == NONE || left < leftAtWorst) {
                    lookAt = back;
                    leftAtWorst = left;
                }
            }
        }

        private int added(State state, int back, int council) {
            return state.hasFallen(back) ? 0 : hall.burdenOn(state, back, council, 0);
        }

        private boolean isRight(State state, int bearer, int added) {
            for (int back = 0; back < hall.court.backs; back++) {
                int tired = state.tired[back] + (back == bearer ? added : 0);
                if (book.hasLine(back) && book.tired[back] != tired) {
                    return false;
                }
            }
            return true;
        }

        /** All pairs of other backs leave this one as tired as it is, so they count as if they added 0 to it. */
        private int worstLeft(State state, int back) {
            Arrays.fill(tally, 0);
            int own = 0;
            for (int council = 0; council < hall.court.councils; council++) {
                int added = added(state, back, council);
                if (added <= MOST_BURDEN && isRight(state, back, added)) {
                    tally[added]++;
                    own++;
                }
            }
            tally[0] += pairs - own;
            int worst = 0;
            for (int left : tally) {
                worst = Math.max(worst, left);
            }
            return worst;
        }
    }

    /** A reign by a seed, tried on a state of its own. */
    private static final class Reign {
        private final Hall hall;
        private final State state = new State();
        private int seed;
        private int borne;

        Reign(Hall hall) {
            this.hall = hall;
        }

        void run(State from, int firstSeed, int q, int days) {
            state.copyFrom(from);
            seed = firstSeed;
            borne = 0;
            boolean isEmpty = hall.court.backs == 0 || hall.court.councils == 0;
            for (int day = 0; day < days; day++) {
                for (int time = 0; time < 2 && !isEmpty; time++) {
                    bearOrRest();
                    tellByChance(q);
                }
                hall.passDay(state);
            }
        }

        private void bearOrRest() {
            int back = draw(hall.court.backs);
            int council = draw(hall.court.councils);
            if (hall.sit(state, back, council)) {
                borne++;
            } else {
                state.rest(back);
            }
        }

        private void tellByChance(int q) {
            if (draw(CHANCE_PARTS) >= q) {
                return;
            }
            int teller = draw(hall.court.backs);
            int other = draw(hall.court.backs);
            state.tell(teller, other);
        }

        private int draw(int by) {
            seed = seed * 1_103_515_245 + 12_345;
            int drawn = seed >>> 16 & 0x7fff;
            return by > 0 ? drawn % by : 0;
        }
    }
}
