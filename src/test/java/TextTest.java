/** Promises 10, 11 and 13 to 18: NAMES, SPELLINGS, their FAULTS, what is IN HAND, EDITS. */
public final class TextTest {
    private static final int NONE = NameBoard.NONE;
    private static final Due due = new Due();

    public static void main(String[] args) {
        name();
        spelling();
        faultsOfSpellings();
        fault();
        spell();
        sets();
        letterAndLed();
        alikes();
        edits();
        due.end();
    }

    private static NameBoard land() {
        NameBoard b = new NameBoard();
        b.place(0, 0);
        b.place(3, 4);
        b.place(100, 100);
        return b;
    }

    private static void name() {
        due.part("10 name");
        NameBoard b = land();
        b.next(5);
        due.is("no SOUND", b.name(0, 0, NONE), -2);
        due.is("a SOUND of 12", Due.tape(b, "abcdefghijkl").name(0, 0, NONE), 0);
        due.is("the TAPE is empty", b.count(9), 0);
        due.is("a SOUND of 13", Due.tape(b, "abcdefghijklm").name(0, 0, NONE), -2);
        due.is("the TAPE stays", b.count(9), 13);
        due.is("a great letter", Due.tape(b, "aBc").name(0, 0, NONE), -2);
        due.is("a blank", Due.tape(b, "a c").name(0, 0, NONE), -2);
        due.is("ahead of a", Due.tape(b, "`").name(0, 0, NONE), -2);
        due.is("behind z", Due.tape(b, "{").name(0, 0, NONE), -2);
        due.is("a byte above 127", Due.tape(b, "\u00e9").name(0, 0, NONE), -2);
        Due.tape(b, "z");
        due.is("place 3", b.name(3, 0, NONE), -2);
        due.is("place -1", b.name(-1, 0, NONE), -2);
        due.is("tongue 3", b.name(0, 3, NONE), -2);
        due.is("tongue -1", b.name(0, -1, NONE), -2);
        due.is("died 6", b.name(0, 0, 6), -2);
        due.is("died -2", b.name(0, 0, -2), -2);
        due.is("died -8", b.name(0, 0, -8), -2);
        due.is("died -10", b.name(0, 0, -10), -2);
        due.is("the TAPE stays", b.count(9), 1);
        due.is("died 5", b.name(2, 2, 5), 1);
        due.is("died 0", Due.tape(b, "b").name(0, 0, 0), 2);
        due.is("lives", Due.tape(b, "b").name(0, 0, -9), 3);
        for (int i = 4; i < 80; i++) {
            due.is("name " + i, Due.name(b, "q", 1, i % 3), i);
        }
        due.is("name 80", Due.name(b, "q", 1, 0), -3);
        due.is("the TAPE stays", b.count(9), 1);
        due.is("name 80, wrong", b.name(1, 3, NONE), -2);
        due.is("count(2)", b.count(2), 80);
    }

    private static void spelling() {
        due.part("11 spelling");
        NameBoard b = land();
        due.is("empty", Due.spelling(b, 0, ""), 0);
        due.is("one RULE", Due.spelling(b, 0, "a > b;"), 1);
        due.is("the TAPE is empty", b.count(9), 0);
        due.is("all that a RULE may have", Due.spelling(b, 1, "after aeiou abc > xyz before # ; q>-;\nafter#z>zz;"), 3);
        due.is("no blanks", Due.spelling(b, 2, "a>b;c>d;e>-before#;"), 3);
        due.is("a FAULT", Due.spelling(b, 2, "a > ;"), -4);
        due.is("the TAPE is empty", b.count(9), 0);
        due.is("count(3)", b.count(3), 4);
        Due.tape(b, "a>b;");
        due.is("tongue 3", b.spelling(3), -2);
        due.is("tongue -1", b.spelling(-1), -2);
        due.is("the TAPE stays", b.count(9), 4);
        for (int i = 4; i < 12; i++) {
            due.is("spelling " + i, Due.spelling(b, i % 3, "a>b;"), 1);
        }
        due.is("spelling 12", Due.spelling(b, 0, "?"), -3);
        due.is("the TAPE stays", b.count(9), 1);
        due.is("it was not read", b.fault(0), 0);
        due.is("spelling 12, tongue 3", b.spelling(3), -2);
        due.is("count(3)", b.count(3), 12);
    }

    private static void faultsOfSpellings() {
        due.part("11, 13 FAULTS of SPELLINGS");
        faulty("a", 1, 1);
        faulty("a  ", 1, 3);
        faulty("a >", 1, 3);
        faulty("a > b", 1, 5);
        faulty("> b;", 1, 0);
        faulty("  ; ", 1, 2);
        faulty("a b;", 1, 2);
        faulty("a > b c;", 1, 6);
        faulty("abcd > b;", 1, 0);
        faulty("a > bcde;", 1, 4);
        faulty("a > #;", 1, 4);
        faulty("- > a;", 1, 0);
        faulty("# > a;", 1, 0);
        faulty("a > b; ;", 1, 7);
        faulty("a > b;;", 1, 6);
        faulty("a > - before;", 1, 12);
        faulty("a > b before x y;", 1, 15);
        faulty("a > b after x;", 1, 6);
        faulty("before x a > b;", 1, 0);
        faulty("after after a > b;", 1, 6);
        faulty("after before a > b;", 1, 6);
        faulty("a > b before after;", 1, 13);
        faulty("a > b before before;", 1, 13);
        faulty("after - a > b;", 1, 6);
        faulty("after > a > b;", 1, 6);
        faulty("after abcdefghijklmnopqrstuvwxyza a > b;", 1, 6);
        faulty("after abc > b;", 1, 10);
        faulty("a > 1;", 1, 4);
        faulty("a > 10000;", 1, 4);
        faulty("a > b\t;", 1, 5);
        faulty("a > B;", 1, 4);
        faulty("a > \u00e9;", 1, 4);
        faulty("a > b.", 1, 5);
        faulty("a < b;", 1, 2);
        faulty("a > b; after", 1, 12);
        faulty("a \u0000> b;", 1, 2);
        String sixteen = "a>b;".repeat(16);
        NameBoard b = land();
        due.is("16 RULES", Due.spelling(b, 0, sixteen), 16);
        due.is("a SET of 26", Due.spelling(b, 0, "after abcdefghijklmnopqrstuvwxyz a > b;"), 1);
        due.is("a letter of a SET twice", Due.spelling(b, 0, "after aaa a > b;"), 1);
        faulty(sixteen + " a>b;", 3, 65);
        faulty(sixteen + " after", 3, 65);
        faulty(sixteen + " abc", 3, 65);
        faulty(sixteen + " before", 1, 65);
        faulty(sixteen + " abcd", 1, 65);
        faulty(sixteen + ";", 1, 64);
        faulty(sixteen + "7", 1, 64);
        faulty("a>b;".repeat(15) + "a>b" + sixteen, 1, 64);
    }

    private static void faulty(String text, int what, int at) {
        NameBoard b = land();
        due.is("'" + text + "'", Due.spelling(b, 0, text), -4);
        due.is("fault(0) of '" + text + "'", b.fault(0), what);
        due.is("fault(1) of '" + text + "'", b.fault(1), at);
        due.is("count(3)", b.count(3), 0);
    }

    private static void fault() {
        due.part("13 fault");
        NameBoard b = land();
        due.is("fault(0) ahead of any", b.fault(0), 0);
        due.is("fault(1) ahead of any", b.fault(1), NONE);
        due.is("fault(2) ahead of any", b.fault(2), NONE);
        Due.act(b, "first 7;");
        due.is("fault(0)", b.fault(0), 2);
        due.is("fault(1)", b.fault(1), 6);
        due.is("fault(2)", b.fault(2), NONE);
        due.is("fault(-1)", b.fault(-1), NONE);
        b.spelling(3);
        due.is("it read nothing: fault(0)", b.fault(0), 2);
        due.is("it read nothing: fault(1)", b.fault(1), 6);
        b.keep(0);
        Due.spelling(b, 0, "a>b;");
        due.is("without: fault(0)", b.fault(0), 0);
        due.is("without: fault(1)", b.fault(1), NONE);
        b.back(0);
        due.is("what was found stays", b.fault(0), 0);
    }

    private static void spelled(NameBoard b, int name, int year, String want, String leads) {
        due.is("spell(" + name + ", " + year + ")", b.spell(name, year), want.length());
        due.is("its letters", Due.inHand(b), want);
        due.is("its leads", Due.leads(b), leads);
    }

    private static void spell() {
        due.part("14 spell");
        NameBoard b = land();
        Due.name(b, "kanak", 0, 0);
        Due.name(b, "kanak", 1, 1);
        spelled(b, 0, 0, "kanak", "-3 -3 -3 -3 -3");
        Due.spelling(b, 1, "x>y;");
        b.next(10);
        Due.spelling(b, 0, "after # k > qu; k > c before #; ana > o; a > e;");
        spelled(b, 0, 9, "kanak", "-3 -3 -3 -3 -3");
        spelled(b, 0, 10, "quoc", "100 100 102 101");
        spelled(b, 0, 399, "quoc", "100 100 102 101");
        spelled(b, 1, 10, "kanak", "-3 -3 -3 -3 -3");
        Due.spelling(b, 0, "k > -; na>nnn;");
        spelled(b, 0, 10, "annn", "-3 201 201 201");
        b.next(1);
        Due.spelling(b, 0, "");
        spelled(b, 0, 11, "kanak", "-3 -3 -3 -3 -3");
        spelled(b, 0, 10, "annn", "-3 201 201 201");
        Due.spelling(b, 0, "a>-;k>-;n>-;");
        spelled(b, 0, 11, "", "");
        Due.spelling(b, 0, "ka>ab;a>zzz;bn>x;");
        spelled(b, 0, 11, "abnzzzk", "500 500 -3 501 501 501 -3");
        due.is("a FAULT", Due.spelling(b, 1, "after x k>ccc before x; a>bbb before x; q"), -4);
        due.is("the next one", Due.spelling(b, 1, "k>-;a>o;"), 2);
        spelled(b, 1, 11, "ono", "601 -3 601");
        due.is("name -1", b.spell(-1, 0), -2);
        due.is("name 2", b.spell(2, 0), -2);
        due.is("year -1", b.spell(0, -1), -2);
        due.is("year 400", b.spell(0, 400), -2);
        due.is("IN HAND stays", Due.inHand(b), "ono");
        Due.name(b, "aaaaaaaaaaaa", 0, 0);
        due.is("36 letters", b.spell(2, 11), 36);
    }

    private static void sets() {
        due.part("14 SETS");
        writes("a>x before b;", "ab", "xb");
        writes("a>x before b;", "ac", "ac");
        writes("a>x before b;", "a", "a");
        writes("a>x before bcd;", "abacadae", "xbxcxdae");
        writes("a>x before #;", "aba", "abx");
        writes("a>x after;", "a", "a");
        writes("after b a>x;", "bac", "bxc");
        writes("after b a>x;", "a", "a");
        writes("after # a>x;", "aa", "xa");
        writes("after # a>x before #;", "a", "x");
        writes("after # a>x before #;", "aa", "aa");
        writes("after a b>-;", "abbab", "aba");
        writes("abc>x;ab>y;a>z;", "abcabaab", "xyzy");
        writes("a>z;ab>y;", "ab", "zb");
        writes("ab>y;", "a", "a");
        writes("ab>y before z;", "abz", "yz");
        writes("a>b;b>c;", "ab", "bc");
        writes("after abcdefghijklmnopqrstuvwxyz a>x;", "aaa", "axx");
        writes("after z z>a before z;", "zzzz", "zaaz");
    }

    private static void writes(String rules, String sound, String want) {
        NameBoard b = land();
        Due.spelling(b, 2, rules);
        Due.name(b, sound, 0, 2);
        b.spell(0, 0);
        due.is(sound + " by " + rules, Due.inHand(b), want);
    }

    private static void letterAndLed() {
        due.part("15, 16 letter and led");
        NameBoard b = land();
        due.is("letter(0) at first", b.letter(0), NONE);
        due.is("led(0) at first", b.led(0), NONE);
        Due.spelling(b, 0, "b>c;");
        Due.name(b, "ab", 0, 0);
        Due.name(b, "az", 0, 1);
        b.spell(0, 0);
        due.is("letter(0)", b.letter(0), 'a');
        due.is("letter(1)", b.letter(1), 'c');
        due.is("letter(2)", b.letter(2), NONE);
        due.is("letter(-1)", b.letter(-1), NONE);
        due.is("led(0)", b.led(0), -3);
        due.is("led(1)", b.led(1), 0);
        due.is("led(2)", b.led(2), NONE);
        due.is("led(-1)", b.led(-1), NONE);
        due.is("letter(MAX)", b.letter(Integer.MAX_VALUE), NONE);
        b.people(0, 0, 2);
        b.people(0, 1, 1);
        Due.act(b, "both;");
        Due.settle(b, 0);
        Due.settle(b, 1);
        due.is("calls between leave it", Due.inHand(b), "ac");
        b.shown(0, 0, 0);
        due.is("two NAMES", Due.inHand(b), "ac az");
        due.is("their leads", Due.leads(b), "-3 0 -4 -3 -3");
        b.sign(0, 1);
        b.signOf(0, 1);
        b.alikes(0);
        b.edits(0, 1, 0);
        due.is("calls between leave it", Due.inHand(b), "ac az");
    }

    private static void alikes() {
        due.part("17 alikes");
        NameBoard b = land();
        due.is("none", b.alikes(0), 0);
        Due.name(b, "kat", 0, 0);
        Due.name(b, "cat", 1, 1);
        Due.name(b, "cat", 1, 2);
        due.is("of one PLACE", b.alikes(0), 0);
        Due.name(b, "kat", 2, 1);
        due.is("one pair", b.alikes(0), 1);
        b.next(3);
        Due.spelling(b, 0, "k>c;");
        due.is("ahead of it", b.alikes(2), 1);
        due.is("from it on", b.alikes(3), 2);
        Due.spelling(b, 1, "k>c;");
        due.is("all", b.alikes(3), 5);
        Due.spelling(b, 2, "c>-;a>-;t>-;");
        due.is("one is nothing", b.alikes(3), 3);
        due.is("year 399", b.alikes(399), 3);
        due.is("year 400", b.alikes(400), -2);
        due.is("year -1", b.alikes(-1), -2);
        NameBoard many = land();
        for (int i = 0; i < 80; i++) {
            Due.name(many, "abcdefghijkl", i % 2, i % 3);
        }
        due.is("80 NAMES", many.alikes(0), 1600);
    }

    private static void edits() {
        due.part("18 edits");
        NameBoard b = land();
        String[] sounds = {"kitten", "sitting", "a", "kitten", "zzzzzz", "ittenk"};
        for (int i = 0; i < sounds.length; i++) {
            Due.name(b, sounds[i], 0, i == 3 ? 1 : 0);
        }
        due.is("kitten, sitting", b.edits(0, 1, 0), 3);
        due.is("sitting, kitten", b.edits(1, 0, 0), 3);
        due.is("with itself", b.edits(0, 0, 0), 0);
        due.is("kitten, a", b.edits(0, 2, 0), 6);
        due.is("a, kitten", b.edits(2, 0, 0), 6);
        due.is("kitten, zzzzzz", b.edits(0, 4, 0), 6);
        due.is("kitten, ittenk", b.edits(0, 5, 0), 2);
        due.is("kitten, kitten", b.edits(0, 3, 0), 0);
        b.next(2);
        Due.spelling(b, 1, "t>tt;k>-;");
        due.is("ahead of it", b.edits(0, 3, 1), 0);
        due.is("kitten, itttten", b.edits(0, 3, 2), 3);
        due.is("name 6", b.edits(0, 6, 0), -2);
        due.is("name -1", b.edits(-1, 0, 0), -2);
        due.is("year 400", b.edits(0, 0, 400), -2);
        due.is("year -1", b.edits(0, 0, -1), -2);
    }
}
