/** Edges of term II and of promises 10, 11 and 13 to 18: NAMES, SPELLINGS, FAULTS, what is IN HAND, EDITS. */
final class EdgesOfTexts {
    private static final int NONE = NameBoard.NONE;
    private static final int MIN = Integer.MIN_VALUE;
    private static final int MAX = Integer.MAX_VALUE;
    private static final String RULES_16 = "a>b;".repeat(16);
    private static final String ALPHABET = "abcdefghijklmnopqrstuvwxyz";

    private final Edge edge;

    EdgesOfTexts(Edge e) {
        edge = e;
    }

    void run() {
        tokens();
        grammar();
        words();
        spelledBy();
        rules();
        faults();
        faultsOfMany();
        name();
        spelling();
        fault();
        spell();
        letter();
        led();
        alikes();
        edits();
    }

    /** A SPELLING without a FAULT, of so many RULES. */
    private void reads(String text, int rules) {
        NameBoard b = Boards.names(1);
        edge.is("'" + text + "'", Due.spelling(b, 0, text), rules);
        edge.is("'" + text + "' has no FAULT", b.fault(0), 0);
        edge.is("'" + text + "' has no place of one", b.fault(1), NONE);
    }

    private void faulty(String text, int fault, int at) {
        NameBoard b = Boards.names(1);
        edge.is("'" + text + "'", Due.spelling(b, 0, text), -4);
        edge.is("the FAULT of '" + text + "'", b.fault(0), fault);
        edge.is("its place in '" + text + "'", b.fault(1), at);
        edge.is("no SPELLING", b.count(3), 0);
    }

    private void faultyAct(String text, int fault, int at) {
        NameBoard b = Boards.names(1);
        edge.is("'" + text + "'", Due.act(b, text), -4);
        edge.is("the FAULT of '" + text + "'", b.fault(0), fault);
        edge.is("its place in '" + text + "'", b.fault(1), at);
        edge.is("no ACT", b.count(4), 0);
    }

    private void writes(String rules, String sound, String want) {
        edge.is(sound + " by " + rules, Boards.writes(rules, sound), want);
    }

    private void tokens() {
        edge.sentence("II", "SPELLINGS are texts. TOKENS, blanks (32, 10) aside, the longest that begin there: "
                + "words (a .. z), the signs > ; # - .");
        reads("a>b;", 1);
        reads(" a \n > \n\n b ; ", 1);
        reads("after#a>-before#;", 1);
        reads("after # a > - before # ;", 1);
        writes("ab>x;", "ab", "x");
        faulty("a b>x;", 1, 2);
        faulty("aftera a>x;", 1, 0);
        faulty("after aa>x;", 1, 8);
        for (int sign = 0; sign < 256; sign++) {
            boolean blank = sign == 32 || sign == 10;
            String text = "a>b" + (char) sign + ";";
            if (blank || sign >= 'a' && sign <= 'z') {
                reads(text, 1);
            } else if (sign == ';') {
                faulty(text, 1, 4);
            } else {
                faulty(text, 1, 3);
            }
            if (!blank && (sign < 'a' || sign > 'z')) {
                faulty("a>b; " + (char) sign, 1, 5);
            }
        }
        reads("z>a;", 1);
    }

    private void grammar() {
        edge.sentence("II", "TEXT: {RULE ;}, 16 at most.");
        reads("", 0);
        reads(" \n ", 0);
        reads("a>b;", 1);
        reads(RULES_16, 16);
        faulty(RULES_16 + "a>b;", 3, 64);
        faulty(";", 1, 0);
        faulty("a>b", 1, 3);
        faulty("a>b;;", 1, 4);

        edge.sentence("II", "RULE: [after SET] WORD > (WORD or -) [before SET].");
        reads("a>b;after c a>b;a>b before c;after c a>b before c;a>-;after c a>-;a>- before c;after c a>- before c;", 8);
        faulty(">b;", 1, 0);
        faulty("a b;", 1, 2);
        faulty("a>;", 1, 2);
        faulty("->b;", 1, 0);
        faulty("a>--;", 1, 3);
        faulty("a>-b;", 1, 3);
        faulty("a>b-;", 1, 3);
        faulty("after c;", 1, 7);
        faulty("after c>b;", 1, 7);
        faulty("before c a>b;", 1, 0);
        faulty("a>b after c;", 1, 4);
        faulty("a>b before c before c;", 1, 13);
        faulty("after c after c a>b;", 1, 8);
        faulty("a>before c;", 1, 2);

        edge.sentence("II", "SET: a word, or #.");
        reads("after # a>b before #;", 1);
        reads("after q a>b before qq;", 1);
        faulty("after > a>b;", 1, 6);
        faulty("after - a>b;", 1, 6);
        faulty("a>b before;", 1, 10);
        faulty("a>b before ->;", 1, 11);
        faulty("after ## a>b;", 1, 7);
        faulty("after a# a>b;", 1, 7);
    }

    private void words() {
        edge.sentence("II", "WORD: a word of 1 to 3 letters; a SET's word has 1 to 26.");
        reads("a>z;", 1);
        reads("abc>xyz;", 1);
        faulty("abcd>xyz;", 1, 0);
        faulty("abc>wxyz;", 1, 4);
        faulty("a>b;" + ALPHABET + ">c;", 1, 4);
        reads("after a a>b;", 1);
        reads("after " + ALPHABET + " a>b before " + ALPHABET + ";", 1);
        faulty("after " + ALPHABET + "a a>b;", 1, 6);
        faulty("a>b before " + ALPHABET + "a;", 1, 11);
        reads("after " + "a".repeat(26) + " a>b;", 1);
        faulty("after " + "a".repeat(27) + " a>b;", 1, 6);

        edge.sentence("II", "after, before are no WORD of a RULE, nor a SET.");
        faulty("after>b;", 1, 5);
        faulty("before>b;", 1, 0);
        faulty("a>after;", 1, 2);
        faulty("a>before;", 1, 2);
        faulty("after after a>b;", 1, 6);
        faulty("after before a>b;", 1, 6);
        faulty("a>b before after;", 1, 11);
        faulty("a>b before before;", 1, 11);
        reads("after afte a>b before befor;", 1);
        reads("after afters a>b before befores;", 1);
    }

    private void spelledBy() {
        edge.sentence("II", "SPELLED by a TONGUE's SPELLING (in a YEAR the one told last up to it; without one each letter is itself):");
        NameBoard b = Boards.places(1);
        for (int tongue = 0; tongue < 3; tongue++) {
            Due.name(b, "az", 0, tongue);
        }
        edge.is("without one", Boards.spelled(b, 1, 399), "az");
        b.next(4);
        Due.spelling(b, 1, "a>e;");
        Due.spelling(b, 1, "a>i;");
        b.next(4);
        Due.spelling(b, 1, "a>o;");
        Due.spelling(b, 2, "a>u;");
        String[] first = {"az", "iz", "iz", "oz", "oz"};
        int[] years = {3, 4, 7, 8, 399};
        for (int i = 0; i < years.length; i++) {
            edge.is("in " + years[i], Boards.spelled(b, 1, years[i]), first[i]);
            edge.is("of another TONGUE in " + years[i], Boards.spelled(b, 0, years[i]), "az");
        }
        edge.is("of the third TONGUE", Boards.spelled(b, 2, 8), "uz");
        Due.spelling(b, 1, "");
        edge.is("by one of no RULES", Boards.spelled(b, 1, 8), "az");

        edge.sentence("II", "from the first letter of the SOUND on, at each letter: the first RULE whose WORD stands there,");
        writes("ab>x;bc>y;", "abc", "xc");
        writes("bc>y;ab>x;", "abc", "xc");
        writes("a>x;ab>y;abc>z;", "abc", "xbc");
        writes("abc>z;ab>y;a>x;", "abc", "z");
        writes("abc>z;ab>y;a>x;", "ab", "y");
        writes("abc>z;", "ab", "ab");
        writes("a>x;a>y;", "a", "x");
        writes("b>x;".repeat(15) + "a>y;", "a", "y");
    }

    private void rules() {
        edge.sentence("II", "whose SET behind after has the letter of the SOUND ahead of it (#: there is none ahead),");
        writes("after x a>y;", "xa", "xy");
        writes("after x a>y;", "a", "a");
        writes("after x a>y;", "za", "za");
        writes("x>z;after x a>y;", "xa", "zy");
        writes("x>z;after z a>y;", "xa", "za");
        writes("x>-;after x a>y;after # a>w;", "xa", "y");
        writes("after # a>y;", "aa", "ya");
        writes("after az x>y;", "axzxbx", "ayzybx");
        writes("after " + ALPHABET + " a>y;", "aa", "ay");

        edge.sentence("II", "whose SET behind before that behind the WORD (#: none is behind);");
        writes("a>y before x;", "ax", "yx");
        writes("a>y before x;", "a", "a");
        writes("a>y before x;", "az", "az");
        writes("abc>y before d;", "abcd", "yd");
        writes("abc>y before c;", "abcd", "abcd");
        writes("a>y before #;", "aa", "ay");
        writes("ab>y before #;", "abab", "aby");
        writes("a>y before " + ALPHABET + ";", "aa", "ya");
        writes("after # a>y before #;", "a", "y");
        writes("after # a>y before #;", "aa", "aa");

        edge.sentence("II", "its second WORD is written (- nothing), and it is gone on behind the first one;");
        writes("ab>cde;c>x;", "abc", "cdex");
        writes("ab>-;", "abab", "");
        writes("a>-;", "bab", "bb");
        writes("aa>b;", "aaaaa", "bba");
        writes("a>aa;", "aa", "aaaa");

        edge.sentence("II", "without such a RULE the letter is written. (A name's letters are 36 at most.)");
        writes("q>x;", "abc", "abc");
        writes("", "abc", "abc");
        writes("a>xyz;", "aaaaaaaaaaaa", "xyz".repeat(12));
        NameBoard b = Boards.places(1);
        Due.spelling(b, 0, "a>xyz;");
        Due.name(b, "aaaaaaaaaaaa", 0, 0);
        edge.is("letters", b.spell(0, 0), 36);
    }

    private void faults() {
        edge.sentence("II", "FAULTS (of both sorts of texts), the first by its place (a TOKEN's first byte; the end's), of one place the least:");
        faulty("a", 1, 1);
        faulty("a>b ", 1, 4);
        faulty("a>b;  a \n ", 1, 10);
        faulty("  abcd 17 ?", 1, 2);
        faulty("a>b; after", 1, 10);
        faultyAct("first 9 first 10000", 2, 6);
        faultyAct("first first 10000", 1, 6);
        faultyAct("dead 10000 10000", 2, 5);
        faultyAct("dead 1 10000;", 1, 7);
        faultyAct("10000", 1, 0);
        faultyAct("dead 1;".repeat(12) + "10000", 1, 84);
        faultyAct("dead", 1, 4);
        faultyAct("dead  ", 1, 6);
        faultyAct("dead 1", 1, 6);
        faulty(" ".repeat(499) + "a", 1, 500);
        faultyAct(" ".repeat(499) + "?", 1, 499);

        edge.sentence("II", "1 a TOKEN that is none, or can't stand there (a word too long, too).");
        faulty("a>b;A>b;", 1, 4);
        faulty("a>\tb;", 1, 2);
        faulty("a>b;1", 1, 4);
        faulty("a=b;", 1, 1);
        faulty("a>#;", 1, 2);
        faulty("abcd>b;", 1, 0);
        faultyAct("dead 1; last 2;", 1, 8);
        faultyAct("dead one;", 1, 5);
        faultyAct("dead 1, ", 1, 6);
        faultyAct("deadly 1;", 1, 0);
        faultyAct("a".repeat(500), 1, 0);
        faultyAct("dead\r1;", 1, 4);

        edge.sentence("II", "2 a number above 9999.");
        NameBoard b = Boards.names(1);
        edge.is("9999", Due.act(b, "far 9999 apart 9999; dead 9999; sign 9999; votes 9999; both if year < 9999;"), 5);
        faultyAct("far 10000 apart 1;", 2, 4);
        faultyAct("far 1 apart 10000;", 2, 12);
        faultyAct("dead 10000;", 2, 5);
        faultyAct("sign 10000;", 2, 5);
        faultyAct("votes 10000;", 2, 6);
        faultyAct("both if year < 10000;", 2, 15);
        faultyAct("dead 4294967297;", 2, 5);
        faultyAct("dead 18446744073709551617;", 2, 5);
        faultyAct("dead " + "9".repeat(400) + ";", 2, 5);
        edge.is("0s ahead", Due.act(b, "dead " + "0".repeat(400) + "9999;"), 1);
        faultyAct("dead " + "0".repeat(400) + "10000;", 2, 5);
    }

    private void faultsOfMany() {
        edge.sentence("II", "3 a 17th RULE, a 13th LINE, at its first TOKEN (if it may begin one);");
        faulty(RULES_16 + " a>b;", 3, 65);
        faulty(RULES_16 + "abc", 3, 64);
        faulty(RULES_16 + "after", 3, 64);
        faulty(RULES_16 + "abcd", 1, 64);
        faulty(RULES_16 + "before", 1, 64);
        faulty(RULES_16 + "-", 1, 64);
        faulty(RULES_16 + ";", 1, 64);
        faulty("a>b;".repeat(15) + "a>b", 1, 63);
        reads(RULES_16 + "  ", 16);
        String lines = "dead 1;".repeat(12);
        for (String kind : new String[] {"first", "both", "far", "dead", "sign", "votes"}) {
            faultyAct(lines + kind, 3, 84);
            faultyAct(lines + " \n" + kind + " 10000;", 3, 86);
        }
        for (String other : new String[] {"if", "and", "apart", "not", "share", "1", ";", "?", "fir", "a"}) {
            faultyAct(lines + other, 1, 84);
        }
        NameBoard b = Boards.names(1);
        edge.is("12 LINES and blanks", Due.act(b, lines + " \n"), 12);

        edge.sentence("II", "a fifth COND, at its not or WORD (if it can stand there).");
        String four = "both if year<1 and not year<2 and share 0=3 and parts>4";
        edge.is("four", Due.act(b, four + ";"), 1);
        for (String word : new String[] {"not", "share", "people", "parts", "year"}) {
            faultyAct(four + " and " + word, 3, 60);
            faultyAct("first 0" + four.substring(4) + " and " + word, 3, 63);
        }
        for (String other : new String[] {"and", "if", "first", "1", ";", "<", "nota"}) {
            faultyAct(four + " and " + other, 1, 60);
        }
        faultyAct(four + " not", 1, 56);
        faultyAct(four + " year", 1, 56);
        faultyAct(four + " and", 1, 59);
    }

    private void name() {
        edge.sentence("10", "The TAPE (empty then) is the SOUND of a NAME of a PLACE in a TONGUE;");
        NameBoard b = Boards.FULL.get();
        edge.is("its number", b.name(3, 1, NONE), 6);
        edge.is("the TAPE is empty", b.count(9), 0);
        edge.is("the SOUND", Boards.spelled(b, 6, 12), "tape");
        edge.is("put to the board", Due.settle(b, 6), 0);
        edge.is("its PLACE and TONGUE", Boards.settledNow(b, 3, 1), 6);
        edge.is("the next one has no SOUND", b.name(3, 1, NONE), -2);
        b = Due.tape(Boards.places(1), "abc");
        edge.is("the first", b.name(0, 0, NONE), 0);
        edge.is("the TAPE is empty", b.count(9), 0);

        edge.sentence("10", "of a person who died in a YEAR (0 .. NOW; NONE: of none; -9: of one who lives): its number.");
        edge.taken("died in", (x, v) -> x.name(0, 0, v), 0, 12, NONE, -9);
        edge.refused("died in", -2, (x, v) -> x.name(0, 0, v), MIN, -10, -8, -2, 13, 399, MAX);
        int[] died = {NONE, -9, 0, 9, 10, 12};
        int[] close = {0, 2, 0, 0, 2, 2};
        for (int i = 0; i < died.length; i++) {
            b = Boards.FULL.get();
            edge.is("its number", b.name(3, 1, died[i]), 6);
            edge.is("dead 3, died " + died[i], Due.settle(b, 6), close[i]);
        }

        edge.sentence("10", "-2: something is not as told, the TAPE is no SOUND (it stays);");
        edge.taken("place", (x, v) -> x.name(v, 0, NONE), 0, 3);
        edge.taken("tongue", (x, v) -> x.name(0, v, NONE), 0, 2);
        edge.refusedBeside("place", 0, 3, -2, (x, v) -> x.name(v, 0, NONE));
        edge.refusedBeside("tongue", 0, 2, -2, (x, v) -> x.name(0, v, NONE));
        for (String tape : new String[] {"", "abcdefghijklm", "a b", "Abc", "a1", "abc\n"}) {
            edge.on(() -> Due.tape(Boards.FULL.get(), tape));
            edge.refused("the TAPE '" + tape + "'", -2, x -> x.name(0, 0, NONE));
        }

        NameBoard text = Due.tape(Boards.places(1), "ab > c;");
        edge.is("the TAPE is a text", text.name(0, 0, NONE), -2);
        edge.is("it stays, byte by byte", text.spelling(0), 1);

        edge.sentence("10", "-3: there are 80.");
        edge.is("the 80th", Boards.names(79).name(0, 0, NONE), 79);
        NameBoard last = Boards.names(79);
        edge.is("the 80th, of 12 letters", Due.name(last, "abcdefghijkl", 0, 0), 79);
        edge.is("the 80th, of 12 letters", Boards.spelled(last, 79, 0), "abcdefghijkl");
        edge.on(Boards.NAMES);
        edge.refused("an 81st", -3, x -> x.name(0, 0, NONE));
        edge.refused("an 81st of no PLACE", -2, x -> x.name(2, 0, NONE));
    }

    private void spelling() {
        edge.sentence("11", "The TAPE (empty then) is a SPELLING of a TONGUE from NOW on: how many RULES.");
        edge.is("no RULES", Due.spelling(Boards.names(1), 2, ""), 0);
        edge.is("16 RULES", Due.spelling(Boards.names(1), 2, RULES_16), 16);
        NameBoard b = Boards.FULL.get();
        edge.is("2 RULES", Due.spelling(b, 2, "a>o;d>dd;"), 2);
        edge.is("the TAPE is empty", b.count(9), 0);
        edge.is("SPELLINGS", b.count(3), 3);
        edge.is("ahead of NOW", Boards.spelled(b, 3, 11), "tat");
        edge.is("NOW", Boards.spelled(b, 3, 12), "ddodd");
        edge.is("of another TONGUE", Boards.spelled(b, 1, 12), "bcb");

        edge.sentence("11", "-4: a FAULT;");
        b = Due.tape(Boards.FULL.get(), "a>o; after x b>c before #; d>dd");
        edge.is("a FAULT", b.spelling(2), -4);
        edge.is("the TAPE is empty", b.count(9), 0);
        edge.is("nothing is told", Edge.difference(Picture.told(b), Picture.told(Boards.FULL.get())), "");
        b = Boards.places(1);
        Due.name(b, "aba", 0, 0);
        edge.is("a FAULT", Due.spelling(b, 0, "after x a>bcd before x; b>bcd; a>xyz; ?"), -4);
        edge.is("the next one", Due.spelling(b, 0, "a>-;b>c;"), 2);
        edge.is("nothing of the one with the FAULT is left", Boards.spelled(b, 0, 0), "c");

        edge.sentence("11", "-2, -3 (the TAPE stays): no such TONGUE; there are 12.");
        edge.taken("tongue", (x, v) -> Due.tape(x, "a>b;").spelling(v), 0, 2);
        edge.refusedBeside("tongue", 0, 2, -2, (x, v) -> x.spelling(v));
        b = Due.tape(Boards.places(1), "ab>c;b>d;");
        b.spelling(3);
        edge.is("the TAPE stays, byte by byte", b.spelling(0), 2);
        b = Due.tape(Boards.spellings(12), "dead 9999;");
        edge.is("a 13th", b.spelling(0), -3);
        edge.is("the TAPE stays, byte by byte", b.act(), 1);
        b = Boards.spellings(11);
        edge.is("the 12th", b.spelling(2), 1);
        edge.is("SPELLINGS", b.count(3), 12);
        edge.on(Boards.SPELLINGS);
        edge.refused("a 13th", -3, (x, v) -> x.spelling(v), 0, 1, 2);
        edge.refused("a 13th of no TONGUE", -2, x -> x.spelling(3));
        edge.on(() -> Due.tape(Boards.spellings(12), "?"));
        edge.refused("a 13th with a FAULT", -3, x -> x.spelling(0));
    }

    private void fault() {
        edge.sentence("13", "Of the latest spelling(), act() that read its TAPE, what 0: its FAULT, 0 without, 1: its place (NONE without).");
        NameBoard b = Boards.places(1);
        Due.spelling(b, 0, "a>b; ?");
        is(b, "of a spelling()", 1, 5);
        Due.act(b, "first 3;");
        is(b, "of an act()", 2, 6);
        Due.spelling(b, 0, RULES_16 + "a");
        is(b, "of a spelling()", 3, 64);
        Due.tape(b, "?").spelling(3);
        is(b, "one that did not read", 3, 64);
        b.name(0, 0, NONE);
        b.written();
        is(b, "no spelling(), no act()", 3, 64);
        Due.act(b, "");
        is(b, "without", 0, NONE);
        Due.act(b, "?");
        is(b, "at the first byte", 1, 0);
        Due.spelling(b, 0, "a>b;");
        is(b, "without", 0, NONE);
        b = Boards.acts(8);
        Due.tape(b, "?").act();
        is(b, "one that did not read", 0, NONE);
        b = Boards.spellings(12);
        Due.tape(b, "?").spelling(0);
        is(b, "one that did not read", 0, NONE);

        edge.sentence("13", "NONE for another what, and ahead of any (what 1).");
        is(new NameBoard(), "ahead of any", 0, NONE);
        edge.refused("what", NONE, (x, v) -> x.fault(v), MIN, -1, 2, MAX);
        edge.is("another what ahead of any", new NameBoard().fault(2), NONE);
    }

    private void is(NameBoard b, String what, int fault, int at) {
        edge.is(what + ", its FAULT", b.fault(0), fault);
        edge.is(what + ", its place", b.fault(1), at);
    }

    private void spell() {
        edge.sentence("14", "How a NAME is SPELLED by the rules of a YEAR: how many letters.");
        NameBoard b = Boards.FULL.get();
        edge.is("aba, its last letter written as nothing", b.spell(0, 0), 3);
        edge.is("dad, ahead of its RULES", Boards.spelled(b, 3, 4), "dad");
        edge.is("tat, by its RULES", Boards.spelled(b, 3, 5), "tat");
        edge.is("in the last YEAR", Boards.spelled(b, 3, 399), "tat");
        NameBoard none = Boards.places(1);
        Due.spelling(none, 0, "a>-;");
        Due.name(none, "aaa", 0, 0);
        edge.is("no letters", none.spell(0, 0), 0);
        edge.is("letter 0 of none", none.letter(0), NONE);

        edge.sentence("14", "-2: there are none such.");
        edge.told("name", (x, v) -> x.spell(v, 0), 0, 5);
        edge.told("year", (x, v) -> x.spell(0, v), 0, 399);
        edge.refusedBeside("name", 0, 5, -2, (x, v) -> x.spell(v, 0));
        edge.refusedBeside("year", 0, 399, -2, (x, v) -> x.spell(0, v));
        edge.is("a NAME of none", new NameBoard().spell(0, 0), -2);
        edge.is("NAME 79 of 80", Boards.names(80).spell(79, 0), 2);
        edge.is("NAME 80 of 80", Boards.names(80).spell(80, 0), -2);

        edge.sentence("14", "(It is IN HAND then.)");
        b = Boards.FULL.get();
        b.spell(2, 12);
        edge.is("IN HAND", Due.inHand(b), "cacc");
        b.spell(3, 12);
        edge.is("in place of it", Due.inHand(b), "tat");
        b.spell(6, 12);
        edge.is("a refused one leaves it", Due.inHand(b), "tat");
    }

    private void letter() {
        edge.sentence("15", "Letter i of what is IN HAND (nothing at first; letters, a blank between two NAMES); NONE.");
        edge.is("nothing at first", new NameBoard().letter(0), NONE);
        NameBoard b = Boards.FULL.get();
        b.shown(0, 12, 12);
        edge.is("the first", b.letter(0), 'b');
        edge.is("the last of the first NAME", b.letter(2), 'b');
        edge.is("the blank", b.letter(3), ' ');
        edge.is("the first of the second NAME", b.letter(4), 'e');
        edge.is("the last", b.letter(6), 'e');
        edge.is("behind the last", b.letter(7), NONE);
        edge.refusedBeside("letter", 0, 6, NONE, (x, v) -> x.letter(v));
        edge.told("letter", (x, v) -> x.letter(v) > 0 ? 0 : -2, 0, 6);
        b.spell(3, 0);
        edge.is("behind the last of a shorter one", b.letter(3), NONE);
    }

    private void led() {
        edge.sentence("16", "By which RULE letter i of what is IN HAND was written (100 times the SPELLING and the RULE; "
                + "-3: by none, as it is; -4: the blank); NONE.");
        edge.is("nothing at first", new NameBoard().led(0), NONE);
        NameBoard b = Boards.FULL.get();
        b.shown(0, 12, 12);
        edge.is("leads", Due.leads(b), "-3 -3 -3 -4 0 -3 0");
        edge.refusedBeside("led", 0, 6, NONE, (x, v) -> x.led(v));
        b = Boards.spellings(11);
        Due.spelling(b, 0, "x>y;".repeat(15) + "a>eee;");
        b.spell(0, 0);
        edge.is("RULE 15 of SPELLING 11", Due.leads(b), "1115 1115 1115 -3");
        b = Boards.places(1);
        Due.spelling(b, 1, "q>r;");
        Due.spelling(b, 0, "b>-;a>a;");
        Due.name(b, "abca", 0, 0);
        b.spell(0, 0);
        edge.is("a letter that a RULE writes as itself", Due.leads(b), "101 -3 101");
    }

    private void alikes() {
        edge.sentence("17", "How many pairs of NAMES of unlike PLACES are SPELLED alike by the rules of a YEAR.");
        edge.is("no NAMES", new NameBoard().alikes(0), 0);
        edge.is("80 NAMES of two PLACES", Boards.names(80).alikes(399), 1600);
        NameBoard b = Boards.places(3);
        Due.name(b, "ab", 0, 0);
        Due.name(b, "ab", 0, 1);
        edge.is("of one PLACE", b.alikes(0), 0);
        Due.name(b, "abb", 1, 0);
        Due.name(b, "a", 1, 1);
        Due.name(b, "ba", 2, 2);
        edge.is("the one begins the other", b.alikes(0), 0);
        edge.is("their first letters are unlike", alikesOf("aaaaaaaaaaaa", "baaaaaaaaaaa"), 0);
        edge.is("their last letters are unlike", alikesOf("aaaaaaaaaaaa", "aaaaaaaaaaab"), 0);
        edge.is("36 letters are alike", alikesOf("aaaaaaaaaaaa", "aaaaaaaaaaaa"), 1);
        b.next(1);
        Due.spelling(b, 2, "ba>ab;");
        edge.is("ahead of the rules", b.alikes(0), 0);
        edge.is("by the rules", b.alikes(1), 2);
        Due.spelling(b, 0, "a>-;b>-;");
        Due.spelling(b, 2, "a>-;b>-;");
        edge.is("three are SPELLED as nothing", b.alikes(1), 3);

        edge.sentence("17", "-2: no such YEAR.");
        edge.told("year", (x, v) -> x.alikes(v), 0, 399);
        edge.refusedBeside("year", 0, 399, -2, (x, v) -> x.alikes(v));
    }

    /** Two SOUNDS that are SPELLED with three letters for each of theirs. */
    private static int alikesOf(String one, String other) {
        NameBoard b = Boards.places(2);
        Due.spelling(b, 0, "a>xyz;after # b>wyz;b>xyw;");
        Due.name(b, one, 0, 0);
        Due.name(b, other, 1, 0);
        return b.alikes(0);
    }

    private void edits() {
        edge.sentence("18", "EDITS of two NAMES as they are SPELLED in a YEAR: the fewest letters put in, taken out, changed.");
        editsAre("a", "a", 0);
        editsAre("a", "b", 1);
        editsAre("a", "ab", 1);
        editsAre("a", "ba", 1);
        editsAre("abc", "b", 2);
        editsAre("ab", "ba", 2);
        editsAre("abcdefghijkl", "mnopqrstuvwx", 12);
        editsAre("abcdefghijkl", "bcdefghijkla", 2);
        editsAre("abcdefghijkl", "a", 11);
        NameBoard b = Boards.places(1);
        Due.name(b, "aaaaaaaaaaaa", 0, 0);
        Due.name(b, "bbbbbbbbbbbb", 0, 1);
        b.next(2);
        Due.spelling(b, 0, "a>xyz;");
        Due.spelling(b, 1, "b>-;");
        edge.is("ahead of the rules", b.edits(0, 1, 1), 12);
        edge.is("36 letters and none", b.edits(0, 1, 2), 36);
        edge.is("none and 36 letters", b.edits(1, 0, 2), 36);
        edge.is("none and none", b.edits(1, 1, 2), 0);

        edge.sentence("18", "-2: there are none such.");
        edge.told("one", (x, v) -> x.edits(v, 0, 0), 0, 5);
        edge.told("other", (x, v) -> x.edits(0, v, 0), 0, 5);
        edge.told("year", (x, v) -> x.edits(0, 1, v), 0, 399);
        edge.refusedBeside("one", 0, 5, -2, (x, v) -> x.edits(v, 0, 0));
        edge.refusedBeside("other", 0, 5, -2, (x, v) -> x.edits(0, v, 0));
        edge.refusedBeside("year", 0, 399, -2, (x, v) -> x.edits(0, 1, v));
    }

    private void editsAre(String one, String other, int want) {
        NameBoard b = Boards.places(1);
        Due.name(b, one, 0, 0);
        Due.name(b, other, 0, 1);
        edge.is(one + ", " + other, b.edits(0, 1, 0), want);
        edge.is(other + ", " + one, b.edits(1, 0, 0), want);
    }
}
