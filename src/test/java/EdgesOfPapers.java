/** Edges of term VI and of promises 33 to 36: PAPERS, their WRITTEN names, and the PLACES to which these are JOINED. */
final class EdgesOfPapers {
    private static final int NONE = NameBoard.NONE;
    private static final int MIN = Integer.MIN_VALUE;
    private static final int MAX = Integer.MAX_VALUE;

    private final Edge edge;

    EdgesOfPapers(Edge e) {
        edge = e;
    }

    void run() {
        road();
        unlike();
        nearest();
        miles();
        greatest();
        paper();
        written();
        join();
        joined();
    }

    /** PLACES so many miles apart, each with the NAMES of a text (none, if it is empty). */
    private static NameBoard land(int miles, String... places) {
        NameBoard b = new NameBoard();
        for (int place = 0; place < places.length; place++) {
            b.place(place * miles, 0);
            for (String sound : places[place].split(" ")) {
                Due.name(b, sound, place, place % 3);
            }
        }
        return b;
    }

    private void joins(NameBoard b, int sum, String places, String... names) {
        b.paper(0);
        for (String name : names) {
            Due.tape(b, name).written();
        }
        String what = String.join(" ", names);
        edge.is("join of " + what, b.join(), sum);
        edge.is("joined of " + what, places(b), places);
    }

    private static String places(NameBoard b) {
        String places = "";
        for (int i = 0; i < 8; i++) {
            places += b.joined(i) == NONE ? "" : (i == 0 ? "" : " ") + b.joined(i);
        }
        return places;
    }

    private void road() {
        edge.sentence("VI", "WRITTEN names of a PAPER stand along a road.");
        joins(land(30, "aaaaa", "bbbbb", "ccccc"), 66, "0 1 2", "aaaaa", "bbbbb", "ccccc");
        joins(land(30, "aaaaa", "bbbbb", "ccccc"), 63, "0 2 1", "aaaaa", "ccccc", "bbbbb");
    }

    private void unlike() {
        edge.sentence("VI", "JOINED: each to a PLACE that has NAMES, all unlike (10 such PLACES at most):");
        joins(land(100, "aa"), 20, "0", "aa");
        joins(land(100, "aa", "bb"), 38, "0 1", "aa", "aa");
        joins(land(100, "", "aa", "", "bb"), 38, "1 3", "aa", "aa");
        joins(land(100, "a", "b", "c", "d", "e", "f", "g", "h", "i", "j"), 20, "9", "j");
        joins(land(90, "a", "b", "c", "d", "e", "f", "g", "h", "i", "j", "k"), NONE, "", "j");
        joins(land(90, "a", "b", "c", "d", "e", "f", "g", "h", "i", "", "k"), 20, "10", "k");
        joins(land(100, "a", "q"), 16, "0 1", "a", "a" + "z".repeat(23));
        joins(land(100, "q", "a", "z"), 17, "1 2", "a", "a" + "z".repeat(23));
        joins(land(100, "aaa", "bbb"), 35, "0 1", "aaa", "bbbbbbbb");
        joins(land(90, "a", "b", "c", "d", "e", "f", "g", "h", "i", "j"), 140, "9 8 7 6 5 4 3", "j", "i", "h", "g", "f", "e", "d");
        joins(land(100, "a", "b", "c", "d", "e", "f", "g"), 135, "0 1 2 3 4 5 6", "a", "q", "q", "q", "q", "q", "g");
    }

    private void nearest() {
        edge.sentence("VI", "for each 20 less the EDITS from the nearest of the PLACE's NAMES, SPELLED by the PAPER's YEAR (told up to NOW),");
        joins(land(100, "abcd"), 20, "0", "abcd");
        joins(land(100, "abcd"), 16, "0", "wxyz");
        joins(land(100, "a"), -4, "0", "z".repeat(24));
        joins(land(100, "a"), 0, "0", "z".repeat(20));
        joins(land(100, "a"), -1, "0", "z".repeat(21));
        joins(land(100, "wxyz abce"), 19, "0", "abcd");
        joins(land(100, "abce wxyz"), 19, "0", "abcd");
        NameBoard wide = land(100, "aaaaaaaaaaaa");
        Due.spelling(wide, 0, "a>xyz;");
        joins(wide, -16, "0", "q");
        NameBoard none = land(100, "aaaaaaaaaaaa");
        Due.spelling(none, 0, "a>-;");
        joins(none, -4, "0", "q".repeat(24));
        NameBoard b = land(100, "aaaa", "bbbb");
        b.next(5);
        Due.spelling(b, 0, "a>b;");
        Due.spelling(b, 1, "b>a;");
        for (int year = 4; year <= 5; year++) {
            b.paper(year);
            Due.tape(b, "aaaa").written();
            edge.is("of " + year, b.join(), 20);
            edge.is("of " + year, b.joined(0), year - 4);
        }
        b.paper(5);
        Due.tape(b, "aaaa").written();
        Due.spelling(b, 0, "");
        Due.spelling(b, 1, "");
        b.join();
        edge.is("told behind the PAPER, up to NOW", b.joined(0), 0);
    }

    private void miles() {
        edge.sentence("VI", "and 3 for each two names next to one another whose PLACES lie within 30 miles;");
        joins(land(30, "aaaaa", "bbbbb"), 43, "0 1", "aaaaa", "bbbbb");
        joins(land(31, "aaaaa", "bbbbb"), 40, "0 1", "aaaaa", "bbbbb");
        joins(land(0, "aaaaa", "bbbbb"), 43, "1 0", "bbbbb", "aaaaa");
        joins(land(30, "aaaaa"), 20, "0", "aaaaa");
        joins(land(10, "aaaaa", "bbbbb", "ccccc"), 66, "1 2 0", "bbbbb", "ccccc", "aaaaa");
        joins(slant(18, 24), 43, "0 1", "aaaaa", "bbbbb");
        joins(slant(18, 25), 40, "0 1", "aaaaa", "bbbbb");
        joins(slant(22, 20), 43, "1 0", "bbbbb", "aaaaa");
        joins(slant(22, 21), 40, "1 0", "bbbbb", "aaaaa");
        joins(land(10, "a", "b", "c", "d", "e", "f", "g"), 158, "0 1 2 3 4 5 6", "a", "b", "c", "d", "e", "f", "g");
    }

    private static NameBoard slant(int x, int y) {
        NameBoard b = new NameBoard();
        b.place(500, 500);
        b.place(500 + x, 500 - y);
        Due.name(b, "aaaaa", 0, 0);
        Due.name(b, "bbbbb", 1, 0);
        return b;
    }

    private void greatest() {
        edge.sentence("VI", "the greatest sum; of several the first by PLACES, name by name.");
        joins(land(100, "ab", "ac", "ad"), 57, "0 1 2", "ax", "ax", "ax");
        joins(land(100, "ab", "ac", "ad"), 59, "0 2 1", "ab", "ax", "ac");
        joins(land(100, "abc", "abd"), 38, "0 1", "abx", "aby");
        joins(land(100, "abc", "abd"), 40, "1 0", "abd", "abc");
        joins(land(100, "aaa", "bbb"), 36, "1 0", "bbx", "qqq");
        NameBoard b = new NameBoard();
        b.place(0, 0);
        b.place(500, 0);
        b.place(530, 0);
        for (int place = 0; place < 3; place++) {
            Due.name(b, "a", place, 0);
        }
        joins(b, 20, "0", "a");
        joins(b, 43, "1 2", "a", "a");
        joins(b, 63, "0 1 2", "a", "a", "a");
    }

    private void paper() {
        edge.sentence("33", "A PAPER of a YEAR (0 .. NOW): no WRITTEN names yet, in place of the one at hand: 0.");
        edge.is("of 0", new NameBoard().paper(0), 0);
        NameBoard b = Boards.FULL.get();
        edge.is("WRITTEN names", b.count(10), 2);
        edge.is("of NOW", b.paper(12), 0);
        edge.is("no WRITTEN names yet", b.count(10), 0);
        edge.is("the next name is the first", Due.tape(b, "a").written(), 1);
        edge.taken("year", (x, v) -> x.paper(v), 0, 3, 12);
        b = new NameBoard();
        b.next(399);
        edge.is("of the last YEAR", b.paper(399), 0);

        edge.sentence("33", "-2: no such YEAR.");
        edge.refusedBeside("year", 0, 12, -2, (x, v) -> x.paper(v));
        edge.refused("year", -2, (x, v) -> x.paper(v), 399, 400);
        edge.is("of 400", b.paper(400), -2);
    }

    private void written() {
        edge.sentence("34", "The TAPE (empty then) is the next name WRITTEN in the PAPER at hand: how many there are.");
        NameBoard b = Boards.FULL.get();
        edge.is("the third", b.written(), 3);
        edge.is("the TAPE is empty", b.count(9), 0);
        edge.is("WRITTEN names", b.count(10), 3);
        edge.is("the seventh", Boards.written(6).written(), 7);

        edge.sentence("34", "-2: it is no row of 1 to 24 letters (it stays), there is no PAPER;");
        edge.is("1 letter", Due.tape(Boards.FULL.get(), "z").written(), 3);
        edge.is("24 letters", Due.tape(Boards.FULL.get(), "z".repeat(24)).written(), 3);
        for (String tape : new String[] {"", "z".repeat(25), "a b", "A", "a\n", "9"}) {
            edge.on(() -> Due.tape(Boards.FULL.get(), tape));
            edge.refused("the TAPE '" + tape + "'", -2, x -> x.written());
        }
        for (int sign = 0; sign < 256; sign++) {
            boolean is = sign >= 'a' && sign <= 'z';
            edge.is("the byte " + sign, Due.tape(Boards.written(0), "a" + (char) sign).written(), is ? 1 : -2);
        }
        b = Due.tape(Boards.written(0), "ab > c;");
        edge.is("the TAPE is a text", b.written(), -2);
        edge.is("it stays, byte by byte", b.spelling(0), 1);
        edge.on(Boards.NAMES);
        edge.refused("no PAPER", -2, x -> x.written());

        edge.sentence("34", "-3: there are 7.");
        edge.on(Boards.WRITTEN);
        edge.refused("an eighth", -3, x -> x.written());
        edge.on(() -> Due.tape(Boards.written(7), "?"));
        edge.refused("an eighth that is no name", -2, x -> x.written());
        b = Boards.written(7);
        b.paper(0);
        edge.is("another PAPER", b.written(), 1);
    }

    private void join() {
        edge.sentence("35", "JOINED (VI): the greatest sum.");
        edge.is("7 names, 8 PLACES a mile apart", Boards.written(7).join(), 151);
        edge.is("no names", Boards.written(0).join(), 0);
        NameBoard b = new NameBoard();
        b.paper(0);
        edge.is("no names, no PLACES", b.join(), 0);
        edge.taken("written, then join", (x, v) -> x.written() + x.join(), 0);

        edge.sentence("35", "NONE: no PAPER, more names than PLACES, or more than 10 PLACES have NAMES.");
        edge.on(() -> Boards.names(2));
        edge.refused("no PAPER", NONE, x -> x.join());
        for (int names = 0; names <= 3; names++) {
            b = land(100, "a", "", "b", "");
            b.paper(0);
            for (int i = 0; i < names; i++) {
                Due.tape(b, "a").written();
            }
            edge.is(names + " names, two PLACES that have NAMES", b.join() == NONE ? 1 : 0, names == 3 ? 1 : 0);
        }
        b = Boards.names(80);
        b.place(9, 9);
        b.paper(0);
        edge.is("80 NAMES, and a PLACE that has none", b.join(), 0);
        b.written();
        edge.is("one name", b.join(), 17);
        b = land(90, "a", "b", "c", "d", "e", "f", "g", "h", "i", "j j", "");
        b.paper(0);
        edge.is("10 PLACES, 11 NAMES", b.join(), 0);
        Due.name(b, "k", 10, 0);
        edge.is("11 PLACES", b.join(), NONE);
        b = Boards.FULL.get();
        String was = places(b);
        for (int place = 4; place < 12; place++) {
            b.place(0, 0);
            Due.name(b, "q", place, 0);
        }
        edge.is("12 PLACES", b.join(), NONE);
        edge.is("what was JOINED stays", places(b), was);
    }

    private void joined() {
        edge.sentence("36", "The PLACE of a WRITTEN name in the latest join() that told a sum; NONE.");
        edge.is("ahead of any", new NameBoard().joined(0), NONE);
        NameBoard b = land(100, "aa", "bb");
        joins(b, 40, "1 0", "bb", "aa");
        Due.tape(b, "cc").written();
        edge.is("three names, two PLACES", b.join(), NONE);
        edge.is("it told no sum", places(b), "1 0");
        b.paper(0);
        edge.is("another PAPER, not JOINED yet", places(b), "1 0");
        Due.tape(b, "aa").written();
        edge.is("one name", b.join(), 20);
        edge.is("the latest", places(b), "0");
        b.paper(0);
        edge.is("no names", b.join(), 0);
        edge.is("the latest has none", places(b), "");
        b = Boards.written(7);
        b.join();
        edge.is("the first of 7", b.joined(0), 0);
        edge.is("the last of 7", b.joined(6), 6);
        edge.is("behind the last", b.joined(7), NONE);
        edge.refused("joined", NONE, (x, v) -> x.joined(v), MIN, -1, 2, 7, MAX);
    }
}
