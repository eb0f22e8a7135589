/** Edges of term IV and of promises 22 to 27: HEARINGS, votes, what is SETTLED, UNDONE and SHOWN. */
final class EdgesOfHearings {
    private static final int NONE = NameBoard.NONE;

    private final Edge edge;

    EdgesOfHearings(Edge e) {
        edge = e;
    }

    void run() {
        members();
        tooFew();
        honoured();
        alike();
        alikeToWhom();
        undone();
        shownRow();
        ask();
        vote();
        close();
        settled();
        undo();
        shown();
    }

    /** Closes a HEARING with so many votes for and against; an empty text is no ACT. */
    private void closes(String act, int yes, int no, int want) {
        NameBoard b = Boards.names(1);
        if (!act.isEmpty()) {
            Due.act(b, act);
        }
        int hearing = b.ask(0);
        for (int member = 0; member < yes + no; member++) {
            b.vote(hearing, member, member < yes);
        }
        edge.is(act + " " + yes + " for, " + no + " against", b.close(hearing), want);
        edge.is("it is SETTLED", b.count(11), want == 0 ? 1 : 0);
    }

    private void members() {
        edge.sentence("IV", "A HEARING: one vote for each of MEMBERS 0 .. 8 at most.");
        closes("", 5, 4, 0);
        closes("", 4, 5, 1);
        closes("votes 100;", 9, 0, 0);
        NameBoard b = Boards.names(1);
        b.ask(0);
        for (int i = 0; i < 9; i++) {
            b.vote(0, 0, true);
        }
        b.vote(0, 7, false);
        b.vote(0, 8, false);
        edge.is("one MEMBER nine times for it, two against", b.close(0), 1);
        b.ask(0);
        edge.is("MEMBER 8", b.vote(1, 8, true), 0);
        edge.is("MEMBER 9", b.vote(1, 9, true), -2);
        edge.is("one for it", b.close(1), 0);
    }

    private void tooFew() {
        edge.sentence("IV", "Too few: nobody voted, or votes for it are less than N hundredths (votes; 50 without) of all that were cast.");
        closes("", 0, 0, 1);
        closes("votes 0;", 0, 0, 1);
        closes("votes 0;", 0, 1, 0);
        closes("votes 0;", 0, 9, 0);
        closes("votes 1;", 0, 9, 1);
        closes("", 0, 1, 1);
        closes("", 1, 1, 0);
        closes("", 1, 2, 1);
        closes("dead 0;", 1, 1, 0);
        closes("dead 99;", 1, 2, 1);
        closes("votes 51;", 1, 1, 1);
        closes("votes 66;", 2, 1, 0);
        closes("votes 67;", 2, 1, 1);
        closes("votes 88;", 8, 1, 0);
        closes("votes 89;", 8, 1, 1);
        closes("votes 100;", 1, 0, 0);
        closes("votes 100;", 8, 1, 1);
        closes("votes 101;", 9, 0, 1);
        closes("votes 9999;", 9, 0, 1);
    }

    /** Closes a HEARING about a person's NAME in YEAR 20. */
    private void honours(String act, int died, int want) {
        NameBoard b = Boards.names(0);
        b.next(20);
        Due.act(b, act);
        edge.is("a NAME", Due.tape(b, "lea").name(0, 0, died), 0);
        edge.is(act + " died " + died, Due.settle(b, 0), want);
        edge.is("it is SETTLED", b.count(11), want == 0 ? 1 : 0);
    }

    private void honoured() {
        edge.sentence("IV", "A person may be honoured who is dead (died N YEARS ago or more; dead; 0 without).");
        honours("", 20, 0);
        honours("", 0, 0);
        honours("", -9, 2);
        honours("", NONE, 0);
        honours("dead 0;", 20, 0);
        honours("dead 0;", -9, 2);
        honours("dead 1;", 20, 2);
        honours("dead 1;", 19, 0);
        honours("dead 20;", 0, 0);
        honours("dead 21;", 0, 2);
        honours("dead 9999;", 0, 2);
        honours("dead 9999;", NONE, 0);
        honours("votes 3;", 20, 0);
    }

    /** Closes a HEARING about a NAME of a PLACE at x, y while "abcd" is SETTLED for one at 500, 500. */
    private void near(String act, int x, int y, String sound, int want) {
        NameBoard b = new NameBoard();
        b.place(500, 500);
        b.place(x, y);
        Due.name(b, "abcd", 0, 0);
        Due.name(b, sound, 1, 1);
        Due.settle(b, 0);
        Due.act(b, act);
        edge.is(act + " " + sound + " at " + x + ", " + y, Due.settle(b, 1), want);
        edge.is("it is SETTLED", b.settled(1, 1, 0, 0), want == 0 ? 1 : NONE);
    }

    private void alike() {
        edge.sentence("IV", "Alike: some NAME SETTLED NOW for another PLACE within N miles (far: the squares of what x and y differ by, "
                + "together, are at most N times N) has at most so many EDITS (apart) from it, both SPELLED by NOW; without far none is.");
        near("far 5 apart 0;", 503, 504, "abcd", 3);
        near("far 5 apart 0;", 497, 496, "abcd", 3);
        near("far 5 apart 0;", 495, 500, "abcd", 3);
        near("far 5 apart 0;", 500, 506, "abcd", 0);
        near("far 5 apart 0;", 503, 505, "abcd", 0);
        near("far 4 apart 0;", 503, 504, "abcd", 0);
        near("far 0 apart 0;", 500, 500, "abcd", 3);
        near("far 0 apart 0;", 501, 500, "abcd", 0);
        near("far 706 apart 0;", 0, 0, "abcd", 0);
        near("far 708 apart 0;", 0, 0, "abcd", 3);
        near("far 9999 apart 0;", 999, 999, "abcd", 3);
        near("far 5 apart 0;", 500, 500, "abce", 0);
        near("far 5 apart 1;", 500, 500, "abce", 3);
        near("far 5 apart 1;", 500, 500, "abcde", 3);
        near("far 5 apart 1;", 500, 500, "abef", 0);
        near("far 5 apart 3;", 500, 500, "wxyz", 0);
        near("far 5 apart 4;", 500, 500, "wxyz", 3);
        near("far 5 apart 9999;", 500, 500, "wxyz", 3);
        near("", 500, 500, "abcd", 0);
        near("both;", 500, 500, "abcd", 0);
    }

    private void alikeToWhom() {
        NameBoard b = Boards.places(3);
        Due.name(b, "aa", 0, 0);
        Due.name(b, "aa", 0, 1);
        Due.name(b, "aa", 1, 0);
        Due.name(b, "zz", 1, 0);
        Due.act(b, "far 9 apart 0;");
        edge.is("none is SETTLED", Due.settle(b, 0), 0);
        edge.is("of its own PLACE", Due.settle(b, 1), 0);
        edge.is("of another PLACE", Due.settle(b, 2), 3);
        b.undo(0, 0);
        edge.is("one of two is UNDONE", Due.settle(b, 2), 3);
        b.undo(0, 1);
        edge.is("both are UNDONE", Due.settle(b, 2), 0);
        edge.is("another one on it", Due.settle(b, 3), 0);
        edge.is("one that lies below another one", Due.settle(b, 0), 0);
        b = Boards.places(40);
        Due.act(b, "far 9999 apart 0;");
        Due.name(b, "aa", 0, 2);
        Due.name(b, "aa", 39, 2);
        edge.is("at the first of 40 PLACES", Due.settle(b, 0), 0);
        edge.is("at the last of 40 PLACES", Due.settle(b, 1), 3);
        b.undo(0, 2);
        edge.is("at the last of 40 PLACES", Due.settle(b, 1), 0);
        edge.is("at the first of 40 PLACES", Due.settle(b, 0), 3);
        b = Boards.places(2);
        Due.name(b, "aa", 0, 0);
        Due.name(b, "bb", 1, 1);
        Due.act(b, "far 9 apart 0;");
        Due.settle(b, 0);
        b.next(3);
        edge.is("SPELLED unlike", Due.settle(b, 1), 0);
        Due.spelling(b, 0, "a>c;");
        Due.spelling(b, 1, "b>c;");
        edge.is("SPELLED alike by NOW", Due.settle(b, 1), 3);
        Due.spelling(b, 0, "a>d;");
        edge.is("the other one SPELLED otherwise", Due.settle(b, 1), 0);
    }

    private void undone() {
        edge.sentence("IV", "SETTLED NAMES of a PLACE in a TONGUE lie one on the other by YEARS; UNDONE, the one ahead counts again "
                + "(as known; it may be UNDONE, too).");
        NameBoard b = Boards.places(1);
        for (int name = 0; name < 3; name++) {
            Due.name(b, "ab", 0, 0);
            Due.settle(b, name);
            b.next(2);
        }
        b.undo(0, 0);
        b.next(2);
        b.undo(0, 0);
        b.next(2);
        b.undo(0, 0);
        b.next(2);
        Due.settle(b, 1);
        int[] want = {0, 0, 1, 1, 2, 2, 1, 1, 0, 0, NONE, NONE, 1, 1};
        for (int year = 0; year < want.length; year++) {
            edge.is("in " + year, b.settled(0, 0, year, 399), want[year]);
            edge.is("as known in " + year, b.settled(0, 0, 399, year), want[year]);
        }
        b.undo(0, 0);
        edge.is("in one YEAR SETTLED and UNDONE", b.settled(0, 0, 399, 399), NONE);
        edge.is("none is left", b.undo(0, 0), -5);
        b = Boards.places(1);
        Due.name(b, "ab", 0, 0);
        Due.name(b, "cd", 0, 0);
        Due.settle(b, 0);
        Due.settle(b, 1);
        edge.is("two in one YEAR", b.settled(0, 0, 0, 0), 1);
        edge.is("the one ahead", b.undo(0, 0), 0);
    }

    private void shownRow() {
        edge.sentence("IV", "SHOWN at a PLACE: the NAME SETTLED in the FIRST TONGUE, SPELLED by that YEAR, then, "
                + "if one is BESIDE it and SETTLED, a blank and that;");
        NameBoard b = land("both;");
        Due.settle(b, 0);
        edge.is("none SETTLED BESIDE it", Boards.shown(b, 0, 0, 0), "aa");
        Due.settle(b, 1);
        edge.is("both", Boards.shown(b, 0, 0, 0), "aa bb");
        b.next(1);
        Due.spelling(b, 0, "a>e;");
        edge.is("SPELLED by the YEAR ahead", Boards.shown(b, 0, 0, 1), "aa bb");
        edge.is("SPELLED by that YEAR", Boards.shown(b, 0, 1, 1), "ee bb");
        edge.is("as known in the YEAR ahead", Boards.shown(b, 0, 1, 0), "aa bb");
        Due.act(b, "dead 1;");
        edge.is("none is BESIDE it", Boards.shown(b, 0, 1, 1), "ee");
        Due.act(b, "both;");
        Due.spelling(b, 0, "a>-;");
        edge.is("SPELLED as nothing", Boards.shown(b, 0, 1, 1), " bb");
        Due.spelling(b, 1, "b>-;");
        edge.is("both SPELLED as nothing", Boards.shown(b, 0, 1, 1), " ");
        Due.spelling(b, 0, "a>xyz;");
        Due.spelling(b, 1, "b>xyz;");
        Due.name(b, "aaaaaaaaaaaa", 0, 0);
        Due.name(b, "bbbbbbbbbbbb", 0, 1);
        Due.settle(b, 3);
        Due.settle(b, 4);
        edge.is("the longest", b.shown(0, 1, 1), 73);

        edge.sentence("IV", "with none SETTLED in the FIRST one the one BESIDE alone, or nothing.");
        b = land("both;");
        edge.is("nothing", b.shown(0, 0, 0), 0);
        Due.settle(b, 2);
        edge.is("neither FIRST nor BESIDE", b.shown(0, 0, 0), 0);
        Due.settle(b, 1);
        edge.is("the one BESIDE alone", Boards.shown(b, 0, 0, 0), "bb");
        Due.act(b, "dead 1;");
        edge.is("it is not BESIDE", b.shown(0, 0, 0), 0);
    }

    /** A PLACE with people of TONGUES 0 (the most), 1 and 2, a NAME in each. */
    private static NameBoard land(String act) {
        NameBoard b = Boards.places(1);
        String[] sounds = {"aa", "bb", "cc"};
        for (int tongue = 0; tongue < 3; tongue++) {
            b.people(0, tongue, 9 - tongue);
            Due.name(b, sounds[tongue], 0, tongue);
        }
        Due.act(b, act);
        return b;
    }

    private void ask() {
        edge.sentence("22", "A NAME is put to the board NOW: the HEARING's number.");
        NameBoard b = Boards.names(2);
        edge.is("the first", b.ask(0), 0);
        edge.is("the second", b.ask(1), 1);
        edge.is("the 60th", Boards.hearings(59).ask(0), 59);
        edge.taken("name", (x, v) -> x.ask(v), 2, 5);

        edge.sentence("22", "-2: there is none such;");
        edge.refusedBeside("name", 0, 5, -2, (x, v) -> x.ask(v));
        edge.is("of none", new NameBoard().ask(0), -2);

        edge.sentence("22", "-3: there are 60;");
        edge.on(Boards.HEARINGS);
        edge.refused("a 61st", -3, (x, v) -> x.ask(v), 0, 1);
        edge.refused("a 61st of no NAME", -2, x -> x.ask(4));

        edge.sentence("22", "-5: one about its PLACE is open.");
        edge.refused("name", -5, (x, v) -> x.ask(v), 0, 1, 3, 4);
        b = Boards.names(4);
        b.ask(0);
        edge.is("the very first one", b.ask(2), -5);
        edge.is("about another PLACE", b.ask(1), 1);
        edge.is("HEARINGS", b.count(5), 2);
        b = Boards.FULL.get();
        b.close(5);
        edge.is("it is closed", b.ask(1), 7);
        edge.is("another one is open now", b.ask(0), -5);
    }

    private void vote() {
        edge.sentence("23", "A MEMBER (0 .. 8) votes in a HEARING, for or against, in place of what it did: 0.");
        NameBoard b = Boards.names(1);
        b.ask(0);
        for (int member = 0; member <= 8; member++) {
            edge.is("MEMBER " + member, b.vote(0, member, member < 4), 0);
        }
        b.keep(0);
        edge.is("4 of 9", b.close(0), 1);
        b.back(0);
        edge.is("MEMBER 8 otherwise", b.vote(0, 8, true), 0);
        edge.is("5 of 9", b.close(0), 0);
        b.back(0);
        b.vote(0, 8, true);
        edge.is("MEMBER 0 otherwise", b.vote(0, 0, false), 0);
        edge.is("4 of 9", b.close(0), 1);
        b.back(0);
        edge.is("the same once more", b.vote(0, 0, true), 0);
        edge.is("4 of 9", b.close(0), 1);
        edge.taken("MEMBER for it", (x, v) -> x.vote(5, v, true), 2, 8);
        edge.taken("MEMBER against it", (x, v) -> x.vote(6, v, false), 3, 8);

        edge.sentence("23", "-2: there are none such;");
        edge.refusedBeside("hearing", 0, 6, -2, (x, v) -> x.vote(v, 0, true));
        edge.refusedBeside("member for it", 0, 8, -2, (x, v) -> x.vote(5, v, true));
        edge.refusedBeside("member against it", 0, 8, -2, (x, v) -> x.vote(6, v, false));
        edge.is("of none", new NameBoard().vote(0, 0, true), -2);

        edge.sentence("23", "-5: it is closed.");
        edge.refused("hearing", -5, (x, v) -> x.vote(v, 0, false), 0, 3, 4);
        edge.refused("no MEMBER, and it is closed", -2, (x, v) -> x.vote(0, v, true), -1, 9);
    }

    private void close() {
        edge.sentence("24", "A HEARING is closed: 0 the NAME is SETTLED from NOW on;");
        NameBoard b = Boards.FULL.get();
        b.vote(5, 2, true);
        b.vote(5, 3, true);
        edge.is("close(5)", b.close(5), 0);
        b.undo(0, 0);
        edge.is("SETTLED once more on the same NAME", Boards.settledNow(b, 0, 0), 0);
        edge.is("close(6)", b.close(6), 0);
        edge.is("SETTLED", Boards.settledNow(b, 2, 2), 4);
        edge.is("not ahead of NOW", b.settled(2, 2, 11, 12), 3);
        edge.taken("hearing", (x, v) -> x.close(v), 5, 6);

        edge.sentence("24", "1 too few votes, 2 a person who may not be honoured, 3 alike another one SETTLED (IV; the first of these).");
        edge.is("all three", refusals(-9, "aa", false), 1);
        edge.is("too few, a person", refusals(-9, "zz", false), 1);
        edge.is("too few, alike", refusals(NONE, "aa", false), 1);
        edge.is("too few", refusals(NONE, "zz", false), 1);
        edge.is("a person, alike", refusals(-9, "aa", true), 2);
        edge.is("a person", refusals(-9, "zz", true), 2);
        edge.is("alike", refusals(NONE, "aa", true), 3);
        edge.is("none of these", refusals(NONE, "zz", true), 0);

        edge.sentence("24", "-2, -5 likewise.");
        edge.refusedBeside("hearing", 0, 6, -2, (x, v) -> x.close(v));
        edge.refused("hearing", -5, (x, v) -> x.close(v), 0, 3, 4);
        edge.is("of none", new NameBoard().close(0), -2);
    }

    /** Closes a HEARING; one that does not settle is closed, too, and settles nothing. */
    private int refusals(int died, String sound, boolean vote) {
        NameBoard b = Boards.places(2);
        Due.act(b, "far 9 apart 0;");
        Due.name(b, "aa", 0, 0);
        Due.settle(b, 0);
        Due.tape(b, sound).name(1, 0, died);
        b.ask(1);
        b.vote(1, 3, vote);
        int why = b.close(1);
        edge.is("it is closed", b.close(1), -5);
        edge.is("another one may be put to the board", b.ask(1), 2);
        edge.is("what is SETTLED", Boards.settledNow(b, 1, 0), why == 0 ? 1 : NONE);
        return why;
    }

    private void settled() {
        edge.sentence("25", "The NAME that is SETTLED for a PLACE in a TONGUE in a YEAR as known in a YEAR; NONE.");
        NameBoard b = Boards.FULL.get();
        edge.is("in 0", b.settled(2, 2, 0, 0), 3);
        edge.is("in 5, SETTLED and UNDONE in it", b.settled(2, 2, 5, 5), 3);
        b.close(6);
        edge.is("in 11", b.settled(2, 2, 11, 399), 3);
        edge.is("in 12", b.settled(2, 2, 12, 399), 4);
        edge.is("in 12 as known in 11", b.settled(2, 2, 12, 11), 3);
        edge.is("in 399", b.settled(2, 2, 399, 399), 4);
        edge.is("in another TONGUE", b.settled(2, 1, 399, 399), NONE);
        edge.is("at another PLACE", b.settled(3, 2, 399, 399), NONE);

        edge.sentence("25", "-2: there are none such.");
        edge.told("place", (x, v) -> x.settled(v, 0, 0, 0), 0, 3);
        edge.told("tongue", (x, v) -> x.settled(0, v, 0, 0), 0, 2);
        edge.told("year", (x, v) -> x.settled(0, 0, v, 0), 0, 399);
        edge.told("known", (x, v) -> x.settled(0, 0, 0, v), 0, 399);
        edge.refusedBeside("place", 0, 3, -2, (x, v) -> x.settled(v, 0, 0, 0));
        edge.refusedBeside("tongue", 0, 2, -2, (x, v) -> x.settled(0, v, 0, 0));
        edge.refusedBeside("year", 0, 399, -2, (x, v) -> x.settled(0, 0, v, 0));
        edge.refusedBeside("known", 0, 399, -2, (x, v) -> x.settled(0, 0, 0, v));
    }

    private void undo() {
        edge.sentence("26", "What is SETTLED NOW for a PLACE in a TONGUE is UNDONE from NOW on: the NAME that is SETTLED then (NONE).");
        NameBoard b = Boards.FULL.get();
        b.close(6);
        edge.is("the NAME ahead", b.undo(2, 2), 3);
        edge.is("none", b.undo(2, 2), NONE);
        edge.is("NOW", b.settled(2, 2, 12, 12), NONE);
        edge.is("ahead of NOW", b.settled(2, 2, 11, 12), 3);
        edge.is("as known ahead of NOW", b.settled(2, 2, 12, 11), 3);
        edge.is("in another TONGUE", b.undo(0, 1), NONE);
        edge.is("of that one alone", Boards.settledNow(b, 0, 0), 0);
        edge.taken("place", (x, v) -> x.undo(v, 1) == NONE ? 0 : -2, 0, 1);
        edge.taken("tongue", (x, v) -> x.undo(0, v) == NONE ? 0 : -2, 0, 1);

        edge.sentence("26", "-2: there is none such;");
        edge.refusedBeside("place", 0, 3, -2, (x, v) -> x.undo(v, 0));
        edge.refusedBeside("tongue", 0, 2, -2, (x, v) -> x.undo(0, v));

        edge.sentence("26", "-5: none is.");
        edge.refused("tongue", -5, (x, v) -> x.undo(3, v), 0, 1, 2);
        edge.refused("another TONGUE of a PLACE with one", -5, x -> x.undo(0, 2));
        b = Boards.names(1);
        Due.settle(b, 0);
        b.undo(0, 0);
        edge.is("it is UNDONE already", b.undo(0, 0), -5);
        b.next(1);
        edge.is("in a later YEAR", b.undo(0, 0), -5);
    }

    private void shown() {
        edge.sentence("27", "SHOWN at a PLACE in a YEAR as known in a YEAR (IV): how many letters; it is IN HAND then.");
        NameBoard b = Boards.FULL.get();
        edge.is("in 4", b.shown(0, 4, 12), 7);
        edge.is("in 4", Due.inHand(b), "ebe bcb");
        edge.is("in 5", b.shown(0, 5, 12), 7);
        edge.is("in 5", Due.inHand(b), "bcb ebe");
        edge.is("in 5 as known in 4", b.shown(0, 5, 4), 7);
        edge.is("in 5 as known in 4", Due.inHand(b), "ebe bcb");
        edge.is("in 399 as known in 399", b.shown(2, 399, 399), 3);
        edge.is("in 399 as known in 399", Due.inHand(b), "tat");
        edge.is("nothing", b.shown(3, 12, 12), 0);
        edge.is("nothing is IN HAND then", b.letter(0), NONE);
        edge.taken("place", (x, v) -> x.shown(v, 0, 0), 0, 3);

        edge.sentence("27", "-2: there are none such.");
        edge.told("year", (x, v) -> x.shown(0, v, 0), 0, 399);
        edge.told("known", (x, v) -> x.shown(0, 0, v), 0, 399);
        edge.refusedBeside("place", 0, 3, -2, (x, v) -> x.shown(v, 0, 0));
        edge.refusedBeside("year", 0, 399, -2, (x, v) -> x.shown(0, v, 0));
        edge.refusedBeside("known", 0, 399, -2, (x, v) -> x.shown(0, 0, v));
    }
}
