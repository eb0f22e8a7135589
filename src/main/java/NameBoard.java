import java.util.Arrays;

/**
 * A board that settles names in a land of three tongues. What it promises stands in DOC.md;
 * the words in capitals (PLACE, NAME, SPELLING, ACT ..) are that document's.
 */
public final class NameBoard {
    public static final int NONE = -1;

    // What a refused call answers.
    private static final int WRONG = -2;
    private static final int FULL = -3;
    private static final int FAULTY = -4;
    private static final int CLASH = -5;
    private static final int EMPTY = -6;
    private static final int BEYOND = -7;
    private static final int UNLIKE = -8;

    // What led() answers where no RULE wrote the letter.
    private static final int BY_NONE = -3;
    private static final int BY_BLANK = -4;

    private static final int LIVING = -9;
    private static final int YEARS = 400;
    private static final int TONGUES = 3;
    private static final int PLACES = 40;
    private static final int MILES = 999;
    private static final int GREATEST = 9999;
    private static final int MEMBERS = 9;
    private static final int IMAGES = 3;
    private static final int SLOTS = 4;
    private static final int WIDTHS = 4;
    private static final int ROW_MOST = 60;

    private final State state = new State();
    private final State[] images = new State[IMAGES];
    private final Tape tape = new Tape();
    private final Row hand = new Row();
    private final View view = new View();
    private final Planner planner = new Planner();
    private final Paper paper = new Paper();
    private final long[] numbers = new long[SLOTS * ROW_MOST];
    private final int[] widths = new int[SLOTS];
    private final int[] lengths = new int[SLOTS];

    public NameBoard() {
        Arrays.fill(lengths, NONE);
    }

    // ---- the TAPE and the YEAR ----

    public int feed(int a, int b, int c, int d, int e) {
        if (tape.size + Tape.FED > Tape.MOST) {
            return NONE;
        }
        tape.push(a);
        tape.push(b);
        tape.push(c);
        tape.push(d);
        tape.push(e);
        return tape.size;
    }

    public int end(int n) {
        if (n < 0 || n > tape.size) {
            return NONE;
        }
        tape.size = n;
        return n;
    }

    public int next(int years) {
        if (!isYear(years) || !isYear(state.now + years)) {
            return NONE;
        }
        state.now += years;
        return state.now;
    }

    // ---- PLACES and who lives there ----

    public int place(int x, int y) {
        if (x < 0 || x > MILES || y < 0 || y > MILES) {
            return WRONG;
        }
        return state.land.addPlace(x, y);
    }

    public int part(int place, int of) {
        Land land = state.land;
        if (!land.has(place) || of == place || of != NONE && !land.has(of)) {
            return WRONG;
        }
        if (view.liesWithin(land, of, place, state.now)) {
            return CLASH;
        }
        if (!land.tellPart(place, of, state.now)) {
            return FULL;
        }
        state.mark();
        return 0;
    }

    public int people(int place, int tongue, int n) {
        return countPeople(place, tongue, n);
    }

    public int counted(int slot) {
        if (!isSlot(slot)) {
            return WRONG;
        }
        if (lengths[slot] == NONE) {
            return EMPTY;
        }
        int whole = lengths[slot] / 3;
        int came = 0;
        int at = slot * ROW_MOST;
        while (came < whole && countPeople(numbers[at], numbers[at + 1], numbers[at + 2]) == 0) {
            came++;
            at += 3;
        }
        return came;
    }

    public int live(int place, int tongue, int year, int known) {
        if (!state.land.has(place) || !isYear(year) || !isYear(known)) {
            return WRONG;
        }
        if (tongue != NONE && !isTongue(tongue)) {
            return WRONG;
        }
        view.gather(state.land, place, Math.min(year, known));
        return tongue == NONE ? view.everyone() : view.lives[tongue];
    }

    // ---- texts: NAMES, SPELLINGS, ACTS ----

    public int name(int place, int tongue, int died) {
        boolean told = died == NONE || died == LIVING || died >= 0 && died <= state.now;
        if (!told || !state.land.has(place) || !isTongue(tongue) || !tape.isLetters(Speech.SOUND)) {
            return WRONG;
        }
        int number = state.speech.addName(tape, place, tongue, died);
        if (number >= 0) {
            tape.size = 0;
        }
        return number;
    }

    public int spelling(int tongue) {
        if (!isTongue(tongue)) {
            return WRONG;
        }
        if (state.speech.spellings >= Speech.SPELLINGS) {
            return FULL;
        }
        int rules = state.speech.readSpelling(tape, tongue, state.now);
        return taken(rules);
    }

    public int act() {
        if (state.acts.acts >= Acts.ACTS) {
            return FULL;
        }
        int lines = state.acts.readAct(tape, state.now);
        return taken(lines);
    }

    public int fault(int what) {
        if (what == 0) {
            return tape.fault;
        }
        return what == 1 ? tape.faultAt : NONE;
    }

    // ---- what is IN HAND ----

    public int spell(int name, int year) {
        if (!state.speech.hasName(name) || !isYear(year)) {
            return WRONG;
        }
        hand.size = 0;
        state.speech.spellInto(hand, name, year);
        return hand.size;
    }

    public int letter(int i) {
        return hand.has(i) ? hand.letters[i] : NONE;
    }

    public int led(int i) {
        return hand.has(i) ? hand.leads[i] : NONE;
    }

    public int alikes(int year) {
        return isYear(year) ? view.alikePairs(state.speech, year) : WRONG;
    }

    public int edits(int one, int other, int year) {
        if (!state.speech.hasName(one) || !state.speech.hasName(other) || !isYear(year)) {
            return WRONG;
        }
        return view.editsOfNames(state.speech, one, other, year);
    }

    // ---- what the ACTS say ----

    public int first(int place, int year, int known) {
        if (!state.land.has(place) || !isYear(year) || !isYear(known)) {
            return WRONG;
        }
        view.look(state, place, year, known);
        return view.lead;
    }

    public int beside(int place, int year, int known) {
        if (!state.land.has(place) || !isYear(year) || !isYear(known)) {
            return WRONG;
        }
        view.look(state, place, year, known);
        return view.second;
    }

    public int swings(int place) {
        return state.land.has(place) ? view.fewestToSwing(state, place) : WRONG;
    }

    // ---- HEARINGS and what they settle ----

    public int ask(int name) {
        if (!state.speech.hasName(name)) {
            return WRONG;
        }
        return state.board.open(name, state.speech.places[name]);
    }

    public int vote(int hearing, int member, boolean is) {
        Board board = state.board;
        if (!board.has(hearing) || member < 0 || member >= MEMBERS) {
            return WRONG;
        }
        if (!board.isOpen[hearing]) {
            return CLASH;
        }
        board.cast(hearing, member, is);
        return 0;
    }

    public int close(int hearing) {
        Board board = state.board;
        if (!board.has(hearing)) {
            return WRONG;
        }
        if (!board.isOpen[hearing]) {
            return CLASH;
        }
        board.isOpen[hearing] = false;
        int name = board.names[hearing];
        int why = view.whyRefused(state, hearing, name);
        if (why == 0) {
            board.settle(name, state.speech.places[name], state.speech.tongues[name], state.now);
            state.mark();
        }
        return why;
    }

    public int settled(int place, int tongue, int year, int known) {
        if (!state.land.has(place) || !isTongue(tongue) || !isYear(year) || !isYear(known)) {
            return WRONG;
        }
        return state.board.nameAt(place, tongue, Math.min(year, known));
    }

    public int undo(int place, int tongue) {
        if (!state.land.has(place) || !isTongue(tongue)) {
            return WRONG;
        }
        if (!state.board.undoLast(place, tongue, state.now)) {
            return CLASH;
        }
        state.mark();
        return state.board.nameAt(place, tongue, state.now);
    }

    public int shown(int place, int year, int known) {
        if (!state.land.has(place) || !isYear(year) || !isYear(known)) {
            return WRONG;
        }
        view.show(state, place, year, known, hand);
        return hand.size;
    }

    // ---- SIGNS and the PLAN ----

    public int sign(int place, int cost) {
        if (!state.land.has(place) || !isNumber(cost)) {
            return WRONG;
        }
        return state.signs.make(place, cost, state.now);
    }

    public int anew(int sign) {
        if (!state.signs.has(sign)) {
            return WRONG;
        }
        state.signs.made[sign] = state.now;
        return 0;
    }

    public int signOf(int sign, int what) {
        Signs signs = state.signs;
        if (!signs.has(sign)) {
            return WRONG;
        }
        switch (what) {
            case 0:
                return view.isLame(state, sign) ? 1 : 0;
            case 1:
                return view.isLame(state, sign) ? view.dueYear(state, sign) : NONE;
            case 2:
                return view.isLame(state, sign) ? Math.max(0, state.now - view.dueYear(state, sign)) : 0;
            case 3:
                return signs.made[sign];
            case 4:
                return signs.places[sign];
            case 5:
                return signs.costs[sign];
            default:
                return WRONG;
        }
    }

    public int plan(int coin) {
        if (!isNumber(coin)) {
            return WRONG;
        }
        planner.begin();
        for (int sign = 0; sign < state.signs.size; sign++) {
            if (view.isLame(state, sign) && !planner.take(sign, state.signs.costs[sign], coin)) {
                return NONE;
            }
        }
        return planner.leastSum(coin);
    }

    public int planned(int sign) {
        return sign >= 0 && sign < Signs.MOST ? planner.years[sign] : NONE;
    }

    // ---- PAPERS ----

    public int paper(int year) {
        if (year < 0 || year > state.now) {
            return WRONG;
        }
        paper.year = year;
        paper.size = 0;
        return 0;
    }

    public int written() {
        if (paper.year == NONE || !tape.isLetters(Paper.LETTERS)) {
            return WRONG;
        }
        if (!paper.add(tape)) {
            return FULL;
        }
        tape.size = 0;
        return paper.size;
    }

    public int join() {
        return paper.year == NONE ? NONE : paper.greatestSum(state, view);
    }

    public int joined(int i) {
        return i >= 0 && i < paper.joinedSize ? paper.joined[i] : NONE;
    }

    // ---- counts and IMAGES ----

    public int count(int what) {
        switch (what) {
            case 0:
                return state.now;
            case 1:
                return state.land.size;
            case 2:
                return state.speech.names;
            case 3:
                return state.speech.spellings;
            case 4:
                return state.acts.acts;
            case 5:
                return state.board.hearings;
            case 6:
                return state.land.counts;
            case 7:
                return state.signs.size;
            case 8:
                return view.lameSigns(state);
            case 9:
                return tape.size;
            case 10:
                return paper.size;
            case 11:
                return state.board.namesAt(state.land.size, state.now);
            case 12:
                return rowsHad();
            default:
                return NONE;
        }
    }

    public int keep(int k) {
        if (k < 0 || k >= IMAGES) {
            return WRONG;
        }
        if (images[k] == null) {
            images[k] = new State();
        }
        images[k].copyFrom(state);
        return 0;
    }

    public int back(int k) {
        if (k < 0 || k >= IMAGES) {
            return WRONG;
        }
        if (images[k] == null) {
            return EMPTY;
        }
        state.copyFrom(images[k]);
        return 0;
    }

    // ---- SLOTS ----

    public int row(int slot, int width, int n) {
        if (!isSlot(slot) || width < 0 || width >= WIDTHS || n > ROW_MOST) {
            return WRONG;
        }
        if (n < 0) {
            return FULL;
        }
        widths[slot] = width;
        lengths[slot] = n;
        for (int i = 0; i < n; i++) {
            numbers[slot * ROW_MOST + i] = 0L;
        }
        return 0;
    }

    public boolean tear(int slot) {
        if (!isSlot(slot) || lengths[slot] == NONE) {
            return false;
        }
        lengths[slot] = NONE;
        return true;
    }

    public int write(int slot, int i, long v) {
        if (!isSlot(slot)) {
            return WRONG;
        }
        if (lengths[slot] == NONE) {
            return EMPTY;
        }
        if (i < 0 || i >= lengths[slot]) {
            return BEYOND;
        }
        numbers[slot * ROW_MOST + i] = cut(v, widths[slot]);
        return 0;
    }

    public int paste(int slot, int i, int to, int k, int n) {
        if (!isSlot(slot) || !isSlot(to)) {
            return WRONG;
        }
        if (lengths[slot] == NONE || lengths[to] == NONE) {
            return EMPTY;
        }
        if (widths[slot] != widths[to]) {
            return UNLIKE;
        }
        if (!liesInRow(slot, i, n) || !liesInRow(to, k, n)) {
            return BEYOND;
        }
        System.arraycopy(numbers, slot * ROW_MOST + i, numbers, to * ROW_MOST + k, n);
        return 0;
    }

    // ---- small tests and helpers of the face ----

    private static boolean isYear(int year) {
        return year >= 0 && year < YEARS;
    }

    private static boolean isTongue(int tongue) {
        return tongue >= 0 && tongue < TONGUES;
    }

    private static boolean isNumber(int n) {
        return n >= 0 && n <= GREATEST;
    }

    private static boolean isSlot(int slot) {
        return slot >= 0 && slot < SLOTS;
    }

    private boolean liesInRow(int slot, int from, int n) {
        // From the far end, so that the sum of two great numbers can't wrap around.
        return from >= 0 && n >= 0 && n <= lengths[slot] && from <= lengths[slot] - n;
    }

    private static long cut(long v, int width) {
        switch (width) {
            case 0:
                return (byte) v;
            case 1:
                return (short) v;
            case 2:
                return (int) v;
            default:
                return v;
        }
    }

    /** Takes longs, so that a SLOT's great number is refused and not cut to one that fits. */
    private int countPeople(long place, long tongue, long n) {
        if (place < 0 || place >= state.land.size || tongue < 0 || tongue >= TONGUES) {
            return WRONG;
        }
        if (n < 0 || n > Land.COUNTED) {
            return WRONG;
        }
        if (!state.land.tellCount((int) place, (int) tongue, (int) n, state.now)) {
            return FULL;
        }
        state.mark();
        return 0;
    }

    /** The TAPE was read as a text: it is empty then, with a FAULT or without. */
    private int taken(int told) {
        tape.size = 0;
        if (tape.fault != 0) {
            return FAULTY;
        }
        state.mark();
        return told;
    }

    /** LANGUAGE.md lists the library's copying of numbers alone. */
    private static void copyFlags(boolean[] from, boolean[] to, int n) {
        for (int i = 0; i < n && i < from.length && i < to.length; i++) {
            to[i] = from[i];
        }
    }

    private int rowsHad() {
        int had = 0;
        for (int slot = 0; slot < SLOTS; slot++) {
            if (lengths[slot] != NONE) {
                had++;
            }
        }
        return had;
    }

    /** All that is told and done: what an IMAGE keeps. */
    private static final class State {
        int now;
        /** By YEAR: something was told in it that may change what is SHOWN. */
        final boolean[] told = new boolean[YEARS];
        final Land land = new Land();
        final Speech speech = new Speech();
        final Acts acts = new Acts();
        final Board board = new Board();
        final Signs signs = new Signs();

        void mark() {
            told[now] = true;
        }

        void copyFrom(State s) {
            now = s.now;
            copyFlags(s.told, told, YEARS);
            land.copyFrom(s.land);
            speech.copyFrom(s.speech);
            acts.copyFrom(s.acts);
            board.copyFrom(s.board);
            signs.copyFrom(s.signs);
        }
    }

    /** PLACES, of which each is PART, and the COUNTS, both in the order of their YEARS. */
    private static final class Land {
        static final int COUNTED = 2000;
        static final int COUNTS = 200;
        /** More than the calls that one object is used for. */
        static final int PARTS = 520;

        int size;
        final int[] xs = new int[PLACES];
        final int[] ys = new int[PLACES];
        int parts;
        final int[] partPlaces = new int[PARTS];
        final int[] partOfs = new int[PARTS];
        final int[] partYears = new int[PARTS];
        int counts;
        final int[] countCells = new int[COUNTS];
        final int[] countPeople = new int[COUNTS];
        final int[] countYears = new int[COUNTS];

        boolean has(int place) {
            return place >= 0 && place < size;
        }

        int addPlace(int x, int y) {
            if (size >= PLACES) {
                return FULL;
            }
            xs[size] = x;
            ys[size] = y;
            size++;
            return size - 1;
        }

        boolean tellPart(int place, int of, int year) {
            int at = parts;
            for (int i = parts - 1; i >= 0 && partYears[i] == year; i--) {
                if (partPlaces[i] == place) {
                    at = i;
                }
            }
            if (at >= PARTS) {
                return false;
            }
            partPlaces[at] = place;
            partOfs[at] = of;
            partYears[at] = year;
            parts = Math.max(parts, at + 1);
            return true;
        }

        boolean tellCount(int place, int tongue, int n, int year) {
            int cell = place * TONGUES + tongue;
            int at = counts;
            for (int i = counts - 1; i >= 0 && countYears[i] == year; i--) {
                if (countCells[i] == cell) {
                    at = i;
                }
            }
            if (at >= COUNTS) {
                return false;
            }
            countCells[at] = cell;
            countPeople[at] = n;
            countYears[at] = year;
            counts = Math.max(counts, at + 1);
            return true;
        }

        void fillParents(int[] parents, int upTo) {
            Arrays.fill(parents, NONE);
            for (int i = 0; i < parts && partYears[i] <= upTo; i++) {
                parents[partPlaces[i]] = partOfs[i];
            }
        }

        void fillOwn(int[] own, int upTo) {
            Arrays.fill(own, 0);
            for (int i = 0; i < counts && countYears[i] <= upTo; i++) {
                own[countCells[i]] = countPeople[i];
            }
        }

        boolean areNear(int one, int other, int miles) {
            int dx = xs[one] - xs[other];
            int dy = ys[one] - ys[other];
            return dx * dx + dy * dy <= miles * miles;
        }

        void copyFrom(Land l) {
            size = l.size;
            System.arraycopy(l.xs, 0, xs, 0, size);
            System.arraycopy(l.ys, 0, ys, 0, size);
            parts = l.parts;
            System.arraycopy(l.partPlaces, 0, partPlaces, 0, parts);
            System.arraycopy(l.partOfs, 0, partOfs, 0, parts);
            System.arraycopy(l.partYears, 0, partYears, 0, parts);
            counts = l.counts;
            System.arraycopy(l.countCells, 0, countCells, 0, counts);
            System.arraycopy(l.countPeople, 0, countPeople, 0, counts);
            System.arraycopy(l.countYears, 0, countYears, 0, counts);
        }
    }

    /** NAMES by their SOUNDS, and the SPELLINGS that write them. */
    private static final class Speech {
        static final int NAMES = 80;
        static final int SOUND = 12;
        static final int SPELLINGS = 12;
        static final int RULES = 16;
        static final int WORD = 3;
        static final int ALPHABET = 26;
        static final int ANY = (1 << 27) - 1;
        /** Stands ahead of a SOUND and behind it, so that # is a letter like others: the 27th. */
        static final char EDGE = '{';
        static final int SPAN = SOUND + 2;
        static final int SPELLED = SOUND * WORD;

        int names;
        final int[] places = new int[NAMES];
        final int[] tongues = new int[NAMES];
        final int[] died = new int[NAMES];
        final int[] lengths = new int[NAMES];
        final byte[] sounds = new byte[NAMES * SPAN];
        int spellings;
        final int[] spellingTongues = new int[SPELLINGS];
        final int[] spellingYears = new int[SPELLINGS];
        final int[] rules = new int[SPELLINGS];
        final int[] after = new int[SPELLINGS * RULES];
        final int[] before = new int[SPELLINGS * RULES];
        final int[] fromLengths = new int[SPELLINGS * RULES];
        final int[] toLengths = new int[SPELLINGS * RULES];
        final byte[] from = new byte[SPELLINGS * RULES * WORD];
        final byte[] to = new byte[SPELLINGS * RULES * WORD];

        boolean hasName(int name) {
            return name >= 0 && name < names;
        }

        int addName(Tape tape, int place, int tongue, int diedIn) {
            if (names >= NAMES || tape.size > SOUND) {
                return FULL;
            }
            places[names] = place;
            tongues[names] = tongue;
            died[names] = diedIn;
            lengths[names] = tape.size;
            int start = names * SPAN;
            sounds[start] = EDGE;
            System.arraycopy(tape.bytes, 0, sounds, start + 1, tape.size);
            sounds[start + 1 + tape.size] = EDGE;
            names++;
            return names - 1;
        }

        /** Reads into the first free SPELLING, which counts only if there is no FAULT. */
        int readSpelling(Tape tape, int tongue, int year) {
            tape.begin();
            int read = 0;
            for (int i = 0; i <= RULES && tape.goesOn(); i++) {
                if (!tape.isWord("after") && !tape.isWordOf(WORD)) {
                    tape.blame(Tape.MISPLACED);
                } else if (read >= RULES) {
                    tape.blame(Tape.TOO_MANY);
                } else {
                    readRule(tape, spellings * RULES + read);
                    read++;
                }
            }
            if (tape.fault == 0) {
                spellingTongues[spellings] = tongue;
                spellingYears[spellings] = year;
                rules[spellings] = read;
                spellings++;
            }
            return read;
        }

        void readRule(Tape tape, int rule) {
            after[rule] = ANY;
            before[rule] = ANY;
            toLengths[rule] = 0;
            if (tape.isWord("after")) {
                tape.advance();
                after[rule] = readSet(tape);
            }
            fromLengths[rule] = readWord(tape, from, rule * WORD);
            tape.takeSign('>');
            if (tape.isSign('-')) {
                tape.advance();
            } else {
                toLengths[rule] = readWord(tape, to, rule * WORD);
            }
            if (tape.isWord("before")) {
                tape.advance();
                before[rule] = readSet(tape);
            }
            tape.takeSign(';');
        }

        int readSet(Tape tape) {
            int set = 0;
            if (tape.isSign('#')) {
                set = 1 << (EDGE - 'a');
                tape.advance();
            } else if (tape.isWordOf(ALPHABET) && !tape.isWord("after") && !tape.isWord("before")) {
                for (int i = tape.at; i < tape.till; i++) {
                    set |= 1 << (tape.bytes[i] - 'a');
                }
                tape.advance();
            } else {
                tape.blame(Tape.MISPLACED);
            }
            return set;
        }

        int readWord(Tape tape, byte[] into, int at) {
            if (!tape.isWordOf(WORD)) {
                tape.blame(Tape.MISPLACED);
                return 0;
            }
            int length = tape.till - tape.at;
            System.arraycopy(tape.bytes, tape.at, into, at, length);
            tape.advance();
            return length;
        }

        int spellingAt(int tongue, int upTo) {
            for (int i = spellings - 1; i >= 0; i--) {
                if (spellingTongues[i] == tongue && spellingYears[i] <= upTo) {
                    return i;
                }
            }
            return NONE;
        }

        /** Puts a NAME, as it is SPELLED by what was told up to a YEAR, behind what the row has. */
        void spellInto(Row row, int name, int upTo) {
            int spelling = spellingAt(tongues[name], upTo);
            int at = name * SPAN + 1;
            int till = at + lengths[name];
            for (int step = 0; step < SOUND && at < till; step++) {
                int rule = ruleFor(spelling, at, till);
                if (rule == NONE) {
                    row.add(sounds[at], BY_NONE);
                    at++;
                } else {
                    int lead = 100 * spelling + rule - spelling * RULES;
                    for (int k = 0; k < toLengths[rule]; k++) {
                        row.add(to[rule * WORD + k], lead);
                    }
                    at += fromLengths[rule];
                }
            }
        }

        int ruleFor(int spelling, int at, int till) {
            if (spelling == NONE) {
                return NONE;
            }
            int start = spelling * RULES;
            for (int rule = start; rule < start + rules[spelling]; rule++) {
                if (fits(rule, at, till)) {
                    return rule;
                }
            }
            return NONE;
        }

        boolean fits(int rule, int at, int till) {
            int behind = at + fromLengths[rule];
            if (behind > till) {
                return false;
            }
            for (int i = at; i < behind; i++) {
                if (sounds[i] != from[rule * WORD + i - at]) {
                    return false;
                }
            }
            boolean follows = (after[rule] >> (sounds[at - 1] - 'a') & 1) == 1;
            return follows && (before[rule] >> (sounds[behind] - 'a') & 1) == 1;
        }

        void copyFrom(Speech s) {
            names = s.names;
            System.arraycopy(s.places, 0, places, 0, names);
            System.arraycopy(s.tongues, 0, tongues, 0, names);
            System.arraycopy(s.died, 0, died, 0, names);
            System.arraycopy(s.lengths, 0, lengths, 0, names);
            System.arraycopy(s.sounds, 0, sounds, 0, names * SPAN);
            spellings = s.spellings;
            System.arraycopy(s.spellingTongues, 0, spellingTongues, 0, spellings);
            System.arraycopy(s.spellingYears, 0, spellingYears, 0, spellings);
            System.arraycopy(s.rules, 0, rules, 0, spellings);
            int all = spellings * RULES;
            System.arraycopy(s.after, 0, after, 0, all);
            System.arraycopy(s.before, 0, before, 0, all);
            System.arraycopy(s.fromLengths, 0, fromLengths, 0, all);
            System.arraycopy(s.toLengths, 0, toLengths, 0, all);
            System.arraycopy(s.from, 0, from, 0, all * WORD);
            System.arraycopy(s.to, 0, to, 0, all * WORD);
        }
    }

    /** ACTS, line by line, each LINE with its CONDS. */
    private static final class Acts {
        static final int ACTS = 8;
        static final int LINES = 12;
        static final int CONDS = 4;

        static final int FIRST = 0;
        static final int BOTH = 1;
        static final int FAR = 2;
        static final int DEAD = 3;
        static final int SIGN = 4;
        static final int VOTES = 5;

        // What a COND looks at: the shares of TONGUES 0 .. 2 come ahead of these.
        static final int SHARE = 0;
        static final int PEOPLE = 3;
        static final int PARTS = 4;
        static final int YEAR = 5;
        static final int FACTS = 6;

        int acts;
        final int[] years = new int[ACTS];
        final int[] lines = new int[ACTS];
        final boolean[] looksAtYear = new boolean[ACTS];
        final int[] kinds = new int[ACTS * LINES];
        final int[] numbers = new int[ACTS * LINES];
        final int[] aparts = new int[ACTS * LINES];
        final int[] conds = new int[ACTS * LINES];
        final boolean[] condNots = new boolean[ACTS * LINES * CONDS];
        final int[] condFacts = new int[ACTS * LINES * CONDS];
        final int[] condSides = new int[ACTS * LINES * CONDS];
        final int[] condNumbers = new int[ACTS * LINES * CONDS];

        /** Reads into the first free ACT, which counts only if there is no FAULT. */
        int readAct(Tape tape, int year) {
            tape.begin();
            looksAtYear[acts] = false;
            int read = 0;
            for (int i = 0; i <= LINES && tape.goesOn(); i++) {
                int kind = kindOfLine(tape);
                if (kind == NONE) {
                    tape.blame(Tape.MISPLACED);
                } else if (read >= LINES) {
                    tape.blame(Tape.TOO_MANY);
                } else {
                    readLine(tape, acts * LINES + read, kind);
                    read++;
                }
            }
            if (tape.fault == 0) {
                years[acts] = year;
                lines[acts] = read;
                acts++;
            }
            return read;
        }

        static int kindOfLine(Tape tape) {
            if (tape.isWord("first")) {
                return FIRST;
            }
            if (tape.isWord("both")) {
                return BOTH;
            }
            if (tape.isWord("far")) {
                return FAR;
            }
            if (tape.isWord("dead")) {
                return DEAD;
            }
            if (tape.isWord("sign")) {
                return SIGN;
            }
            return tape.isWord("votes") ? VOTES : NONE;
        }

        void readLine(Tape tape, int line, int kind) {
            readHead(tape, line, kind);
            boolean more = (kind == FIRST || kind == BOTH) && tape.isWord("if");
            for (int i = 0; i <= CONDS && more && tape.fault == 0; i++) {
                tape.advance();
                if (!tape.isWord("not") && factOf(tape) == NONE) {
                    tape.blame(Tape.MISPLACED);
                } else if (i >= CONDS) {
                    tape.blame(Tape.TOO_MANY);
                } else {
                    readCond(tape, line * CONDS + i);
                    conds[line] = i + 1;
                }
                more = tape.isWord("and");
            }
            tape.takeSign(';');
        }

        void readHead(Tape tape, int line, int kind) {
            tape.advance();
            kinds[line] = kind;
            numbers[line] = 0;
            aparts[line] = 0;
            conds[line] = 0;
            if (kind == FIRST) {
                numbers[line] = tape.takeNumber(TONGUES - 1);
            } else if (kind != BOTH) {
                numbers[line] = tape.takeNumber(GREATEST);
            }
            if (kind == FAR) {
                tape.takeWord("apart");
                aparts[line] = tape.takeNumber(GREATEST);
            }
        }

        static int factOf(Tape tape) {
            if (tape.isWord("share")) {
                return SHARE;
            }
            if (tape.isWord("people")) {
                return PEOPLE;
            }
            if (tape.isWord("parts")) {
                return PARTS;
            }
            return tape.isWord("year") ? YEAR : NONE;
        }

        void readCond(Tape tape, int cond) {
            condNots[cond] = tape.isWord("not");
            if (condNots[cond]) {
                tape.advance();
            }
            int fact = factOf(tape);
            if (fact == NONE) {
                tape.blame(Tape.MISPLACED);
                return;
            }
            tape.advance();
            if (fact == SHARE) {
                fact = tape.takeNumber(TONGUES - 1);
            }
            if (fact == YEAR) {
                looksAtYear[acts] = true;
            }
            condFacts[cond] = fact;
            condSides[cond] = tape.isSign('<') ? -1 : tape.isSign('>') ? 1 : 0;
            tape.takeSign(condSides[cond] < 0 ? '<' : condSides[cond] > 0 ? '>' : '=');
            condNumbers[cond] = tape.takeNumber(GREATEST);
        }

        int inForce(int upTo) {
            for (int i = acts - 1; i >= 0; i--) {
                if (years[i] <= upTo) {
                    return i;
                }
            }
            return NONE;
        }

        boolean dependsOnYear(int act) {
            return act != NONE && looksAtYear[act];
        }

        /** The first LINE of a kind whose CONDS hold; NONE. */
        int firstHolding(int act, int kind, int[] facts) {
            if (act == NONE) {
                return NONE;
            }
            int start = act * LINES;
            for (int line = start; line < start + lines[act]; line++) {
                if (kinds[line] == kind && holds(line, facts)) {
                    return line;
                }
            }
            return NONE;
        }

        boolean holds(int line, int[] facts) {
            int start = line * CONDS;
            for (int cond = start; cond < start + conds[line]; cond++) {
                int fact = facts[condFacts[cond]];
                int side = fact < condNumbers[cond] ? -1 : fact > condNumbers[cond] ? 1 : 0;
                if ((side == condSides[cond]) == condNots[cond]) {
                    return false;
                }
            }
            return true;
        }

        /** The last LINE of a kind; NONE. */
        int lastLine(int act, int kind) {
            if (act == NONE) {
                return NONE;
            }
            for (int line = act * LINES + lines[act] - 1; line >= act * LINES; line--) {
                if (kinds[line] == kind) {
                    return line;
                }
            }
            return NONE;
        }

        int numberOf(int act, int kind, int without) {
            int line = lastLine(act, kind);
            return line == NONE ? without : numbers[line];
        }

        void copyFrom(Acts a) {
            acts = a.acts;
            System.arraycopy(a.years, 0, years, 0, acts);
            System.arraycopy(a.lines, 0, lines, 0, acts);
            copyFlags(a.looksAtYear, looksAtYear, acts);
            int all = acts * LINES;
            System.arraycopy(a.kinds, 0, kinds, 0, all);
            System.arraycopy(a.numbers, 0, numbers, 0, all);
            System.arraycopy(a.aparts, 0, aparts, 0, all);
            System.arraycopy(a.conds, 0, conds, 0, all);
            copyFlags(a.condNots, condNots, all * CONDS);
            System.arraycopy(a.condFacts, 0, condFacts, 0, all * CONDS);
            System.arraycopy(a.condSides, 0, condSides, 0, all * CONDS);
            System.arraycopy(a.condNumbers, 0, condNumbers, 0, all * CONDS);
        }
    }

    /** HEARINGS, and what they SETTLED: one on the other by YEARS, each UNDONE at most once. */
    private static final class Board {
        static final int HEARINGS = 60;
        static final int NEVER = YEARS;

        int hearings;
        final int[] names = new int[HEARINGS];
        final int[] places = new int[HEARINGS];
        final boolean[] isOpen = new boolean[HEARINGS];
        /** One bit a MEMBER. */
        final int[] voted = new int[HEARINGS];
        final int[] votedFor = new int[HEARINGS];
        int settlings;
        final int[] settledNames = new int[HEARINGS];
        final int[] settledPlaces = new int[HEARINGS];
        final int[] settledTongues = new int[HEARINGS];
        final int[] settledYears = new int[HEARINGS];
        final int[] undoneYears = new int[HEARINGS];

        boolean has(int hearing) {
            return hearing >= 0 && hearing < hearings;
        }

        int open(int name, int place) {
            if (hearings >= HEARINGS) {
                return FULL;
            }
            for (int i = 0; i < hearings; i++) {
                if (isOpen[i] && places[i] == place) {
                    return CLASH;
                }
            }
            names[hearings] = name;
            places[hearings] = place;
            isOpen[hearings] = true;
            voted[hearings] = 0;
            votedFor[hearings] = 0;
            hearings++;
            return hearings - 1;
        }

        void cast(int hearing, int member, boolean is) {
            int bit = 1 << member;
            voted[hearing] |= bit;
            votedFor[hearing] = is ? votedFor[hearing] | bit : votedFor[hearing] & ~bit;
        }

        boolean tooFew(int hearing, int hundredths) {
            int all = Integer.bitCount(voted[hearing]);
            return all == 0 || Integer.bitCount(votedFor[hearing]) * 100 < hundredths * all;
        }

        void settle(int name, int place, int tongue, int year) {
            if (settlings >= HEARINGS) {
                return;
            }
            settledNames[settlings] = name;
            settledPlaces[settlings] = place;
            settledTongues[settlings] = tongue;
            settledYears[settlings] = year;
            undoneYears[settlings] = NEVER;
            settlings++;
        }

        int settlingAt(int place, int tongue, int upTo) {
            for (int i = settlings - 1; i >= 0; i--) {
                boolean here = settledPlaces[i] == place && settledTongues[i] == tongue;
                if (here && settledYears[i] <= upTo && undoneYears[i] > upTo) {
                    return i;
                }
            }
            return NONE;
        }

        int nameAt(int place, int tongue, int upTo) {
            int at = settlingAt(place, tongue, upTo);
            return at == NONE ? NONE : settledNames[at];
        }

        int namesAt(int placesThere, int upTo) {
            int n = 0;
            for (int place = 0; place < placesThere; place++) {
                for (int tongue = 0; tongue < TONGUES; tongue++) {
                    if (settlingAt(place, tongue, upTo) != NONE) {
                        n++;
                    }
                }
            }
            return n;
        }

        boolean undoLast(int place, int tongue, int year) {
            int at = settlingAt(place, tongue, year);
            if (at == NONE) {
                return false;
            }
            undoneYears[at] = year;
            return true;
        }

        void copyFrom(Board b) {
            hearings = b.hearings;
            System.arraycopy(b.names, 0, names, 0, hearings);
            System.arraycopy(b.places, 0, places, 0, hearings);
            copyFlags(b.isOpen, isOpen, hearings);
            System.arraycopy(b.voted, 0, voted, 0, hearings);
            System.arraycopy(b.votedFor, 0, votedFor, 0, hearings);
            settlings = b.settlings;
            System.arraycopy(b.settledNames, 0, settledNames, 0, settlings);
            System.arraycopy(b.settledPlaces, 0, settledPlaces, 0, settlings);
            System.arraycopy(b.settledTongues, 0, settledTongues, 0, settlings);
            System.arraycopy(b.settledYears, 0, settledYears, 0, settlings);
            System.arraycopy(b.undoneYears, 0, undoneYears, 0, settlings);
        }
    }

    /** SIGNS: what one shows follows from its PLACE and the YEAR in which it was made. */
    private static final class Signs {
        static final int MOST = 40;

        int size;
        final int[] places = new int[MOST];
        final int[] costs = new int[MOST];
        final int[] made = new int[MOST];

        boolean has(int sign) {
            return sign >= 0 && sign < size;
        }

        int make(int place, int cost, int year) {
            if (size >= MOST) {
                return FULL;
            }
            places[size] = place;
            costs[size] = cost;
            made[size] = year;
            size++;
            return size - 1;
        }

        void copyFrom(Signs s) {
            size = s.size;
            System.arraycopy(s.places, 0, places, 0, size);
            System.arraycopy(s.costs, 0, costs, 0, size);
            System.arraycopy(s.made, 0, made, 0, size);
        }
    }

    /** The TAPE, read TOKEN by TOKEN, and the FAULT of the text that was read last. */
    private static final class Tape {
        static final int MOST = 500;
        static final int FED = 20;

        static final int MISPLACED = 1;
        static final int TOO_GREAT = 2;
        static final int TOO_MANY = 3;

        static final int END = 0;
        static final int WORD = 1;
        static final int NUMBER = 2;
        /** One byte, of which it is seen only where it stands whether it is a TOKEN at all. */
        static final int SINGLE = 3;

        final byte[] bytes = new byte[MOST];
        int size;
        int fault;
        int faultAt = NONE;
        /** The TOKEN at hand: its first byte, the one behind it, its kind and number. */
        int at;
        int till;
        int kind;
        int number;

        void push(int four) {
            for (int shift = 24; shift >= 0 && size < MOST; shift -= 8) {
                bytes[size] = (byte) (four >> shift);
                size++;
            }
        }

        boolean isLetters(int most) {
            if (size < 1 || size > most) {
                return false;
            }
            for (int i = 0; i < size; i++) {
                if (kindOf(bytes[i]) != WORD) {
                    return false;
                }
            }
            return true;
        }

        static int kindOf(byte b) {
            if (b >= 'a' && b <= 'z') {
                return WORD;
            }
            return b >= '0' && b <= '9' ? NUMBER : SINGLE;
        }

        void begin() {
            fault = 0;
            faultAt = NONE;
            till = 0;
            advance();
        }

        boolean goesOn() {
            return kind != END && fault == 0;
        }

        void advance() {
            at = till;
            while (at < size && (bytes[at] == ' ' || bytes[at] == '\n')) {
                at++;
            }
            till = at;
            number = 0;
            kind = at < size ? kindOf(bytes[at]) : END;
            if (kind == SINGLE) {
                till++;
                return;
            }
            while (till < size && kindOf(bytes[till]) == kind) {
                if (kind == NUMBER) {
                    // Held just above the greatest number: more digits must not wrap it around.
                    number = Math.min(GREATEST + 1, number * 10 + bytes[till] - '0');
                }
                till++;
            }
        }

        void blame(int what) {
            if (fault == 0) {
                fault = what;
                faultAt = at;
            }
        }

        boolean isSign(char c) {
            return kind == SINGLE && at < size && bytes[at] == c;
        }

        boolean isWordOf(int most) {
            return kind == WORD && till - at <= most;
        }

        boolean isWord(String word) {
            if (kind != WORD || till - at != word.length()) {
                return false;
            }
            for (int i = at; i < till; i++) {
                if (bytes[i] != word.charAt(i - at)) {
                    return false;
                }
            }
            return true;
        }

        void takeSign(char c) {
            if (isSign(c)) {
                advance();
            } else {
                blame(MISPLACED);
            }
        }

        void takeWord(String word) {
            if (isWord(word)) {
                advance();
            } else {
                blame(MISPLACED);
            }
        }

        int takeNumber(int most) {
            if (kind != NUMBER) {
                blame(MISPLACED);
                return 0;
            }
            if (number > most) {
                blame(TOO_GREAT);
                return 0;
            }
            int taken = number;
            advance();
            return taken;
        }
    }

    /** A row of letters, each with what led to it. */
    private static final class Row {
        /** Two NAMES of 36 letters and the blank between them. */
        static final int MOST = 73;

        int size;
        final byte[] letters = new byte[MOST];
        final int[] leads = new int[MOST];

        boolean has(int i) {
            return i >= 0 && i < size;
        }

        void add(int letter, int lead) {
            if (size < MOST) {
                letters[size] = (byte) letter;
                leads[size] = lead;
                size++;
            }
        }

        boolean readsAs(Row other) {
            if (size != other.size) {
                return false;
            }
            for (int i = 0; i < size; i++) {
                if (letters[i] != other.letters[i]) {
                    return false;
                }
            }
            return true;
        }
    }

    /** What follows from all that was told, worked out in rows that are used again. */
    private static final class View {
        final int[] parents = new int[PLACES];
        final int[] own = new int[PLACES * TONGUES];
        /** People by TONGUE of the PLACE that was looked at last, and of all its parts. */
        final int[] lives = new int[TONGUES];
        final int[] facts = new int[Acts.FACTS];
        int lead;
        int second;
        final Row one = new Row();
        final Row other = new Row();
        final int[] line = new int[Row.MOST + 1];
        /** All NAMES as they are SPELLED, for alikes(): each is written once, not once a pair. */
        final int[] spelledLengths = new int[Speech.NAMES];
        final byte[] spelled = new byte[Speech.NAMES * Speech.SPELLED];

        boolean isUnder(int place, int top) {
            int at = place;
            for (int i = 0; i <= PLACES && at >= 0 && at < PLACES; i++) {
                if (at == top) {
                    return true;
                }
                at = parents[at];
            }
            return false;
        }

        boolean liesWithin(Land land, int place, int top, int upTo) {
            land.fillParents(parents, upTo);
            return isUnder(place, top);
        }

        /** Who lives in a PLACE and its parts, by what was told up to a YEAR. */
        void gather(Land land, int place, int upTo) {
            land.fillParents(parents, upTo);
            land.fillOwn(own, upTo);
            Arrays.fill(lives, 0);
            int parts = 0;
            for (int p = 0; p < land.size; p++) {
                if (parents[p] == place) {
                    parts++;
                }
                if (isUnder(p, place)) {
                    addOwn(p);
                }
            }
            facts[Acts.PARTS] = parts;
        }

        void addOwn(int place) {
            for (int tongue = 0; tongue < TONGUES; tongue++) {
                lives[tongue] += own[place * TONGUES + tongue];
            }
        }

        int everyone() {
            int all = 0;
            for (int tongue = 0; tongue < TONGUES; tongue++) {
                all += lives[tongue];
            }
            return all;
        }

        void setShares() {
            int all = everyone();
            facts[Acts.PEOPLE] = all;
            for (int tongue = 0; tongue < TONGUES; tongue++) {
                facts[Acts.SHARE + tongue] = all > 0 ? lives[tongue] * 100 / all : 0;
            }
        }

        /** Finds the TONGUE that is FIRST in a PLACE, and the one BESIDE it. */
        void look(State s, int place, int year, int known) {
            int upTo = Math.min(year, known);
            gather(s.land, place, upTo);
            setShares();
            facts[Acts.YEAR] = year;
            int act = s.acts.inForce(upTo);
            lead = firstBy(s.acts, act);
            second = NONE;
            if (s.acts.firstHolding(act, Acts.BOTH, facts) != NONE) {
                int most = mostPeople(lead);
                second = lives[most] > 0 ? most : NONE;
            }
        }

        int firstBy(Acts acts, int act) {
            int told = acts.firstHolding(act, Acts.FIRST, facts);
            return told == NONE ? mostPeople(NONE) : acts.numbers[told];
        }

        /** The TONGUE of the most people, of several the least, but for one of them. */
        int mostPeople(int but) {
            int most = but == 0 ? 1 : 0;
            for (int tongue = most + 1; tongue < TONGUES; tongue++) {
                if (tongue != but && lives[tongue] > lives[most]) {
                    most = tongue;
                }
            }
            return most;
        }

        int fewestToSwing(State s, int place) {
            look(s, place, s.now, s.now);
            int act = s.acts.inForce(s.now);
            int start = place * TONGUES;
            int most = Math.max(own[start], Math.max(own[start + 1], own[start + 2]));
            for (int d = 1; d <= most; d++) {
                if (swingsBy(s.acts, act, start, d)) {
                    return d;
                }
            }
            return NONE;
        }

        boolean swingsBy(Acts acts, int act, int start, int d) {
            for (int from = 0; from < TONGUES; from++) {
                for (int to = 0; to < TONGUES && own[start + from] >= d; to++) {
                    if (from != to && swungBy(acts, act, from, to, d)) {
                        return true;
                    }
                }
            }
            return false;
        }

        boolean swungBy(Acts acts, int act, int from, int to, int d) {
            lives[from] -= d;
            lives[to] += d;
            setShares();
            boolean swung = firstBy(acts, act) != lead;
            lives[from] += d;
            lives[to] -= d;
            return swung;
        }

        int alikePairs(Speech speech, int year) {
            int pairs = 0;
            for (int i = 0; i < speech.names; i++) {
                spellAside(speech, i, year);
                for (int j = 0; j < i; j++) {
                    if (speech.places[i] != speech.places[j] && areSpelledAlike(i, j)) {
                        pairs++;
                    }
                }
            }
            return pairs;
        }

        void spellAside(Speech speech, int name, int year) {
            one.size = 0;
            speech.spellInto(one, name, year);
            spelledLengths[name] = Math.min(one.size, Speech.SPELLED);
            System.arraycopy(one.letters, 0, spelled, name * Speech.SPELLED, spelledLengths[name]);
        }

        boolean areSpelledAlike(int name, int from) {
            int length = spelledLengths[name];
            if (length != spelledLengths[from]) {
                return false;
            }
            for (int k = 0; k < length; k++) {
                if (spelled[name * Speech.SPELLED + k] != spelled[from * Speech.SPELLED + k]) {
                    return false;
                }
            }
            return true;
        }

        int editsOfNames(Speech speech, int name, int from, int year) {
            one.size = 0;
            other.size = 0;
            speech.spellInto(one, name, year);
            speech.spellInto(other, from, year);
            return editsOfRows(one, other);
        }

        int editsOfRows(Row a, Row b) {
            for (int j = 0; j <= b.size; j++) {
                line[j] = j;
            }
            for (int i = 0; i < a.size; i++) {
                int slant = line[0];
                line[0] = i + 1;
                for (int j = 0; j < b.size; j++) {
                    int changed = a.letters[i] == b.letters[j] ? slant : slant + 1;
                    slant = line[j + 1];
                    line[j + 1] = Math.min(changed, Math.min(slant, line[j]) + 1);
                }
            }
            return line[b.size];
        }

        /** Why a HEARING that is closed NOW does not settle its NAME; 0 if it does. */
        int whyRefused(State s, int hearing, int name) {
            int act = s.acts.inForce(s.now);
            if (s.board.tooFew(hearing, s.acts.numberOf(act, Acts.VOTES, 50))) {
                return 1;
            }
            int died = s.speech.died[name];
            int dead = s.acts.numberOf(act, Acts.DEAD, 0);
            if (died == LIVING || died != NONE && s.now - died < dead) {
                return 2;
            }
            int far = s.acts.lastLine(act, Acts.FAR);
            return far != NONE && isAlike(s, name, s.acts.numbers[far], s.acts.aparts[far]) ? 3 : 0;
        }

        boolean isAlike(State s, int name, int miles, int apart) {
            int here = s.speech.places[name];
            for (int place = 0; place < s.land.size; place++) {
                boolean near = place != here && s.land.areNear(place, here, miles);
                for (int tongue = 0; near && tongue < TONGUES; tongue++) {
                    int there = s.board.nameAt(place, tongue, s.now);
                    if (there != NONE && editsOfNames(s.speech, name, there, s.now) <= apart) {
                        return true;
                    }
                }
            }
            return false;
        }

        void show(State s, int place, int year, int known, Row row) {
            look(s, place, year, known);
            int upTo = Math.min(year, known);
            int ahead = s.board.nameAt(place, lead, upTo);
            int behind = second == NONE ? NONE : s.board.nameAt(place, second, upTo);
            row.size = 0;
            if (ahead != NONE) {
                s.speech.spellInto(row, ahead, upTo);
            }
            if (ahead != NONE && behind != NONE) {
                row.add(' ', BY_BLANK);
            }
            if (behind != NONE) {
                s.speech.spellInto(row, behind, upTo);
            }
        }

        boolean isLame(State s, int sign) {
            int place = s.signs.places[sign];
            int made = s.signs.made[sign];
            show(s, place, made, made, one);
            show(s, place, s.now, s.now, other);
            return !one.readsAs(other);
        }

        int lameSigns(State s) {
            int lame = 0;
            for (int sign = 0; sign < s.signs.size; sign++) {
                lame += isLame(s, sign) ? 1 : 0;
            }
            return lame;
        }

        /** By when a LAME SIGN must be made anew: goes back from NOW to when its row was SHOWN. */
        int dueYear(State s, int sign) {
            int place = s.signs.places[sign];
            int made = s.signs.made[sign];
            show(s, place, made, made, one);
            int since = s.now;
            boolean unlike = true;
            for (int year = s.now - 1; year >= made && unlike; year--) {
                // Where nothing was told in the YEAR behind this one, both have SHOWN the same.
                if (s.told[year + 1] || s.acts.dependsOnYear(s.acts.inForce(year))) {
                    show(s, place, year, year, other);
                    unlike = !one.readsAs(other);
                }
                if (unlike) {
                    since = year;
                }
            }
            return since + s.acts.numberOf(s.acts.inForce(s.now), Acts.SIGN, 10);
        }
    }

    /** The PLAN: which LAME SIGNS are made anew in which YEAR. */
    private static final class Planner {
        static final int SIGNS = 9;
        static final int SETS = 1 << SIGNS;
        /** The sum's place in a key, ahead of four bits a SIGN for its YEAR, the first SIGN's highest. */
        static final int SUM = 36;

        /** By SIGN, of the latest PLAN that told a sum. */
        final int[] years = new int[Signs.MOST];
        int size;
        final int[] signs = new int[SIGNS];
        /** By set of SIGNS: what they cost, what one YEAR more adds to their key, the least key. */
        final int[] costs = new int[SETS];
        final long[] delays = new long[SETS];
        final long[] keys = new long[SETS];

        Planner() {
            Arrays.fill(years, NONE);
        }

        void begin() {
            size = 0;
        }

        boolean take(int sign, int cost, int coin) {
            if (size >= SIGNS || cost > coin) {
                return false;
            }
            signs[size] = sign;
            int bit = 1 << size;
            long delay = (1L << SUM) + (1L << 4 * (SIGNS - 1 - size));
            for (int set = 0; set < bit; set++) {
                costs[bit + set] = costs[set] + cost;
                delays[bit + set] = delays[set] + delay;
            }
            size++;
            return true;
        }

        int leastSum(int coin) {
            int all = 1 << size;
            for (int set = 1; set < all; set++) {
                keys[set] = leastKey(set, coin);
            }
            long key = keys[all - 1];
            Arrays.fill(years, NONE);
            for (int i = 0; i < size; i++) {
                years[signs[i]] = (int) (key >> 4 * (SIGNS - 1 - i)) & 15;
            }
            return (int) (key >> SUM);
        }

        /** Tries each part of a set for this YEAR: the others are then planned one YEAR later. */
        long leastKey(int set, int coin) {
            long least = Long.MAX_VALUE;
            for (int part = set; part > 0; part = (part - 1) & set) {
                int rest = set - part;
                if (costs[part] <= coin) {
                    least = Math.min(least, keys[rest] + delays[rest]);
                }
            }
            return least;
        }
    }

    /** The PAPER at hand, and how its WRITTEN names are JOINED to PLACES. */
    private static final class Paper {
        static final int MOST = 7;
        static final int LETTERS = 24;
        static final int CHOICES = 10;
        static final int GAIN = 20;
        static final int NEAR_GAIN = 3;
        static final int NEAR = 30;

        int year = NONE;
        int size;
        final int[] lengths = new int[MOST];
        final byte[] letters = new byte[MOST * LETTERS];
        /** Of the latest join() that told a sum. */
        int joinedSize;
        final int[] joined = new int[MOST];
        int choices;
        final int[] places = new int[CHOICES];
        final int[] gains = new int[MOST * CHOICES];
        /** By set of PLACES joined and the last of them: the most that the names behind can add. */
        int[] most = new int[0];

        boolean add(Tape tape) {
            if (size >= MOST || tape.size > LETTERS) {
                return false;
            }
            lengths[size] = tape.size;
            System.arraycopy(tape.bytes, 0, letters, size * LETTERS, tape.size);
            size++;
            return true;
        }

        int greatestSum(State s, View view) {
            if (!choosePlaces(s) || size > choices) {
                return NONE;
            }
            fillGains(s, view);
            fillMost(s.land);
            int sum = mostBehind(s.land, 0, NONE);
            takeFirst(s.land);
            return sum;
        }

        boolean choosePlaces(State s) {
            choices = 0;
            for (int place = 0; place < s.land.size; place++) {
                boolean named = false;
                for (int name = 0; name < s.speech.names && !named; name++) {
                    named = s.speech.places[name] == place;
                }
                if (named && choices >= CHOICES) {
                    return false;
                }
                if (named) {
                    places[choices] = place;
                    choices++;
                }
            }
            return true;
        }

        void fillGains(State s, View view) {
            for (int i = 0; i < size; i++) {
                view.one.size = 0;
                for (int k = 0; k < lengths[i]; k++) {
                    view.one.add(letters[i * LETTERS + k], BY_NONE);
                }
                for (int choice = 0; choice < choices; choice++) {
                    gains[i * CHOICES + choice] = GAIN - fewestEdits(s, view, places[choice]);
                }
            }
        }

        int fewestEdits(State s, View view, int place) {
            int fewest = Row.MOST;
            for (int name = 0; name < s.speech.names; name++) {
                if (s.speech.places[name] == place) {
                    view.other.size = 0;
                    s.speech.spellInto(view.other, name, year);
                    fewest = Math.min(fewest, view.editsOfRows(view.one, view.other));
                }
            }
            return fewest;
        }

        void fillMost(Land land) {
            if (most.length == 0 && size > 0) {
                most = new int[(1 << CHOICES) * CHOICES];
            }
            // From the greatest set down: a set with one PLACE more is always done before.
            for (int set = (1 << choices) - 1; set > 0 && size > 0; set--) {
                for (int last = 0; last < choices && Integer.bitCount(set) <= size; last++) {
                    if ((set >> last & 1) == 1) {
                        most[set * CHOICES + last] = mostBehind(land, set, last);
                    }
                }
            }
        }

        int mostBehind(Land land, int set, int last) {
            int i = Integer.bitCount(set);
            if (i >= size) {
                return 0;
            }
            int greatest = Integer.MIN_VALUE;
            for (int choice = 0; choice < choices; choice++) {
                if ((set >> choice & 1) == 0) {
                    greatest = Math.max(greatest, sumWith(land, set, last, choice));
                }
            }
            return greatest;
        }

        int sumWith(Land land, int set, int last, int choice) {
            int sum = gains[Integer.bitCount(set) * CHOICES + choice];
            if (last != NONE && land.areNear(places[last], places[choice], NEAR)) {
                sum += NEAR_GAIN;
            }
            return sum + most[(set | 1 << choice) * CHOICES + choice];
        }

        void takeFirst(Land land) {
            joinedSize = size;
            int set = 0;
            int last = NONE;
            for (int i = 0; i < size; i++) {
                int greatest = mostBehind(land, set, last);
                int choice = 0;
                while (choice < choices - 1 && !reaches(land, set, last, choice, greatest)) {
                    choice++;
                }
                joined[i] = places[choice];
                set |= 1 << choice;
                last = choice;
            }
        }

        boolean reaches(Land land, int set, int last, int choice, int greatest) {
            return (set >> choice & 1) == 0 && sumWith(land, set, last, choice) == greatest;
        }
    }
}
