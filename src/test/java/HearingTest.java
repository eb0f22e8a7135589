/** Promises 22 to 27: HEARINGS, votes, what is SETTLED, UNDONE and SHOWN. */
public final class HearingTest {
    private static final int NONE = NameBoard.NONE;
    private static final Due due = new Due();

    public static void main(String[] args) {
        ask();
        vote();
        tooFew();
        honoured();
        alike();
        settled();
        undo();
        shown();
        shownAsKnown();
        due.end();
    }

    /** Places at 0, 5 and 100 miles, each with three NAMES, one a TONGUE: 0 to 2, 3 to 5, 6 to 8. */
    private static NameBoard land() {
        NameBoard b = new NameBoard();
        b.place(0, 0);
        b.place(3, 4);
        b.place(100, 0);
        String[] sounds = {"aba", "bob", "cuc", "abb", "bobo", "cucu", "aba", "xyz", "zzz"};
        for (int i = 0; i < 9; i++) {
            Due.name(b, sounds[i], i / 3, i % 3);
        }
        return b;
    }

    private static void ask() {
        due.part("22 ask");
        NameBoard b = land();
        due.is("name 9", b.ask(9), -2);
        due.is("name -1", b.ask(-1), -2);
        due.is("ask(0)", b.ask(0), 0);
        due.is("one about its PLACE is open", b.ask(0), -5);
        due.is("one about its PLACE is open", b.ask(2), -5);
        due.is("about another PLACE", b.ask(3), 1);
        b.close(0);
        due.is("ask(2)", b.ask(2), 2);
        due.is("count(5)", b.count(5), 3);
        b.close(2);
        for (int i = 3; i < 60; i++) {
            due.is("ask " + i, b.ask(0), i);
            b.close(i);
        }
        due.is("ask 60", b.ask(0), -3);
        due.is("ask 60, about a PLACE with an open one", b.ask(3), -3);
        due.is("ask 60, wrong", b.ask(9), -2);
    }

    private static void vote() {
        due.part("23 vote");
        NameBoard b = land();
        due.is("no HEARING", b.vote(0, 0, true), -2);
        b.ask(0);
        due.is("hearing -1", b.vote(-1, 0, true), -2);
        due.is("hearing 1", b.vote(1, 0, true), -2);
        due.is("member 9", b.vote(0, 9, true), -2);
        due.is("member -1", b.vote(0, -1, true), -2);
        due.is("member 8", b.vote(0, 8, true), 0);
        due.is("member 8 against", b.vote(0, 8, false), 0);
        due.is("in place of what it did", b.close(0), 1);
        due.is("closed", b.vote(0, 0, true), -5);
        due.is("closed, member 9", b.vote(0, 9, true), -2);
        b.ask(0);
        b.vote(1, 8, false);
        b.vote(1, 8, true);
        due.is("for it in the end", b.close(1), 0);
    }

    private static void tooFew() {
        due.part("24 too few");
        NameBoard b = land();
        due.is("no HEARING", b.close(0), -2);
        due.is("hearing -1", b.close(-1), -2);
        b.ask(0);
        due.is("nobody voted", b.close(0), 1);
        due.is("closed", b.close(0), -5);
        due.is("it settled nothing", b.settled(0, 0, 0, 0), NONE);
        voted(b, 1, 1, 0);
        voted(b, 1, 2, 1);
        voted(b, 4, 5, 1);
        voted(b, 5, 4, 0);
        Due.act(b, "votes 60;");
        voted(b, 3, 2, 0);
        voted(b, 4, 3, 1);
        voted(b, 5, 3, 0);
        Due.act(b, "votes 0;");
        voted(b, 0, 9, 0);
        voted(b, 0, 0, 1);
        Due.act(b, "votes 0; votes 101; dead 3;");
        voted(b, 9, 0, 1);
        Due.act(b, "votes 101; votes 100;");
        voted(b, 9, 0, 0);
        voted(b, 8, 1, 1);
        Due.act(b, "votes 9999;");
        voted(b, 9, 0, 1);
        Due.act(b, "dead 1;");
        voted(b, 1, 1, 0);
    }

    private static void voted(NameBoard b, int yes, int no, int want) {
        int hearing = b.ask(0);
        for (int i = 0; i < yes + no; i++) {
            b.vote(hearing, i, i < yes);
        }
        due.is(yes + " for, " + no + " against", b.close(hearing), want);
    }

    private static void honoured() {
        due.part("24 honoured");
        NameBoard b = land();
        b.next(50);
        int lives = Due.tape(b, "lea").name(0, 0, -9);
        int dead = Due.tape(b, "leo").name(0, 0, 40);
        int now = Due.tape(b, "lei").name(0, 0, 50);
        due.is("lives", Due.settle(b, lives), 2);
        due.is("died", Due.settle(b, dead), 0);
        due.is("died NOW", Due.settle(b, now), 0);
        Due.act(b, "dead 1; dead 10;");
        due.is("died 10 YEARS ago", Due.settle(b, dead), 0);
        due.is("died NOW", Due.settle(b, now), 2);
        due.is("of none", Due.settle(b, 0), 0);
        Due.act(b, "dead 11;");
        due.is("died 10 YEARS ago", Due.settle(b, dead), 2);
        b.next(1);
        due.is("died 11 YEARS ago", Due.settle(b, dead), 0);
        int hearing = b.ask(lives);
        due.is("too few goes ahead", b.close(hearing), 1);
    }

    private static void alike() {
        due.part("24 alike");
        NameBoard b = land();
        due.is("settle 0", Due.settle(b, 0), 0);
        due.is("without far", Due.settle(b, 3), 0);
        b.undo(1, 0);
        Due.act(b, "far 5 apart 1;");
        due.is("5 miles, one EDIT", Due.settle(b, 3), 3);
        due.is("it is closed", b.close(2), -5);
        due.is("3 EDITS", Due.settle(b, 5), 0);
        due.is("of its own PLACE", Due.settle(b, 0), 0);
        due.is("100 miles", Due.settle(b, 6), 0);
        Due.act(b, "far 4 apart 1;");
        due.is("not within 4 miles", Due.settle(b, 3), 0);
        b.undo(1, 0);
        Due.act(b, "far 0 apart 0; far 5 apart 0;");
        due.is("apart 0, one EDIT", Due.settle(b, 3), 0);
        b.undo(1, 0);
        Due.act(b, "far 9999 apart 0;");
        due.is("alike one 97 miles away", Due.settle(b, 6), 3);
        due.is("another TONGUE, 4 EDITS", Due.settle(b, 4), 0);
        b.undo(1, 1);
        Due.act(b, "far 9999 apart 9999;");
        due.is("all are alike", Due.settle(b, 4), 3);
        b.undo(0, 0);
        b.undo(0, 0);
        b.undo(1, 2);
        b.undo(2, 0);
        due.is("none is SETTLED", b.count(11), 0);
        due.is("then none is alike", Due.settle(b, 4), 0);

        NameBoard s = land();
        Due.settle(s, 0);
        Due.act(s, "far 5 apart 0;");
        s.next(1);
        due.is("aba and bobo", Due.settle(s, 4), 0);
        Due.spelling(s, 1, "b>-;o>aba before #;o>-;");
        due.is("aba and aba, SPELLED by NOW", Due.settle(s, 4), 3);
        int hearing = s.ask(4);
        due.is("too few goes ahead", s.close(hearing), 1);
        int lives = Due.tape(s, "aba").name(1, 0, -9);
        due.is("lives goes ahead", Due.settle(s, lives), 2);
    }

    private static void settled() {
        due.part("25 settled");
        NameBoard b = land();
        due.is("none", b.settled(0, 0, 0, 0), NONE);
        b.next(10);
        Due.settle(b, 0);
        int again = Due.name(b, "newer", 0, 0);
        b.next(10);
        Due.settle(b, again);
        due.is("in 9", b.settled(0, 0, 9, 399), NONE);
        due.is("in 10", b.settled(0, 0, 10, 399), 0);
        due.is("in 19", b.settled(0, 0, 19, 20), 0);
        due.is("in 20", b.settled(0, 0, 20, 20), again);
        due.is("in 20 as known in 19", b.settled(0, 0, 20, 19), 0);
        due.is("in 20 as known in 0", b.settled(0, 0, 20, 0), NONE);
        due.is("in 399", b.settled(0, 0, 399, 399), again);
        due.is("another TONGUE", b.settled(0, 1, 20, 20), NONE);
        due.is("another PLACE", b.settled(1, 0, 20, 20), NONE);
        due.is("count(11)", b.count(11), 1);
        Due.settle(b, 1);
        due.is("count(11)", b.count(11), 2);
        due.is("place 3", b.settled(3, 0, 0, 0), -2);
        due.is("place -1", b.settled(-1, 0, 0, 0), -2);
        due.is("tongue 3", b.settled(0, 3, 0, 0), -2);
        due.is("tongue -1", b.settled(0, -1, 0, 0), -2);
        due.is("year 400", b.settled(0, 0, 400, 0), -2);
        due.is("known -1", b.settled(0, 0, 0, -1), -2);
    }

    private static void undo() {
        due.part("26 undo");
        NameBoard b = land();
        due.is("none is", b.undo(0, 0), -5);
        due.is("place 3", b.undo(3, 0), -2);
        due.is("place -1", b.undo(-1, 0), -2);
        due.is("tongue 3", b.undo(0, 3), -2);
        due.is("tongue -1", b.undo(0, -1), -2);
        int second = Due.name(b, "secon", 0, 0);
        int third = Due.name(b, "third", 0, 0);
        Due.settle(b, 0);
        b.next(10);
        Due.settle(b, second);
        b.next(10);
        due.is("the one ahead", b.undo(0, 0), 0);
        b.next(10);
        Due.settle(b, third);
        b.next(10);
        due.is("undone ones are passed", b.undo(0, 0), 0);
        due.is("the last one", b.undo(0, 0), NONE);
        due.is("none is", b.undo(0, 0), -5);
        int[] years = {0, 9, 10, 19, 20, 29, 30, 39, 40};
        int[] names = {0, 0, second, second, 0, 0, third, third, NONE};
        for (int i = 0; i < years.length; i++) {
            due.is("in " + years[i], b.settled(0, 0, years[i], 40), names[i]);
            due.is("in 40 as known in " + years[i], b.settled(0, 0, 40, years[i]), names[i]);
        }
        Due.settle(b, 0);
        Due.settle(b, 0);
        due.is("SETTLED twice", b.undo(0, 0), 0);
        due.is("SETTLED twice", b.undo(0, 0), NONE);
        Due.settle(b, 1);
        due.is("another TONGUE", b.undo(0, 0), -5);
    }

    private static void shows(NameBoard b, int place, int year, int known, String want) {
        String what = "shown(" + place + ", " + year + ", " + known + ")";
        due.is(what, b.shown(place, year, known), want.length());
        due.is(what, Due.inHand(b), want);
    }

    private static void shown() {
        due.part("27 shown");
        NameBoard b = land();
        shows(b, 0, 0, 0, "");
        b.people(0, 0, 10);
        b.people(0, 1, 20);
        Due.settle(b, 0);
        shows(b, 0, 0, 0, "");
        Due.act(b, "both;");
        shows(b, 0, 0, 0, "aba");
        due.is("the one BESIDE alone", Due.leads(b), "-3 -3 -3");
        Due.settle(b, 1);
        shows(b, 0, 0, 0, "bob aba");
        Due.act(b, "dead 1;");
        shows(b, 0, 0, 0, "bob");
        Due.act(b, "both; first 0;");
        shows(b, 0, 0, 0, "aba bob");
        Due.spelling(b, 1, "o>oe;");
        shows(b, 0, 0, 0, "aba boeb");
        due.is("leads", Due.leads(b), "-3 -3 -3 -4 -3 0 0 -3");
        Due.spelling(b, 0, "a>-;b>-;");
        shows(b, 0, 0, 0, " boeb");
        b.undo(0, 1);
        shows(b, 0, 0, 0, "");
        due.is("place 3", b.shown(3, 0, 0), -2);
        due.is("place -1", b.shown(-1, 0, 0), -2);
        due.is("year 400", b.shown(0, 400, 0), -2);
        due.is("year -1", b.shown(0, -1, 0), -2);
        due.is("known 400", b.shown(0, 0, 400), -2);
        due.is("known -1", b.shown(0, 0, -1), -2);
        b.spell(0, 399);
        b.spell(1, 0);
        b.shown(3, 0, 0);
        due.is("IN HAND stays", Due.inHand(b), "boeb");
        NameBoard wide = new NameBoard();
        wide.place(0, 0);
        Due.name(wide, "aaaaaaaaaaaa", 0, 0);
        Due.name(wide, "aaaaaaaaaaaa", 0, 1);
        Due.spelling(wide, 0, "a>xyz;");
        Due.spelling(wide, 1, "a>xyz;");
        wide.people(0, 1, 1);
        Due.act(wide, "first 0; both;");
        Due.settle(wide, 0);
        Due.settle(wide, 1);
        due.is("73 letters", wide.shown(0, 0, 0), 73);
        due.is("the blank", wide.letter(36), ' ');
        due.is("its lead", wide.led(36), -4);
        due.is("the last lead", wide.led(72), 100);
    }

    private static void shownAsKnown() {
        due.part("27 as known");
        NameBoard b = land();
        Due.settle(b, 0);
        Due.settle(b, 1);
        b.next(10);
        Due.spelling(b, 0, "b>p;");
        b.next(10);
        b.people(0, 1, 1);
        b.next(10);
        Due.act(b, "both; first 1 if year > 35; first 0;");
        shows(b, 0, 5, 30, "aba");
        shows(b, 0, 10, 30, "apa");
        shows(b, 0, 20, 30, "bob");
        shows(b, 0, 30, 30, "apa bob");
        shows(b, 0, 36, 30, "bob");
        shows(b, 0, 36, 29, "bob");
        shows(b, 0, 36, 19, "apa");
        shows(b, 0, 36, 9, "aba");
    }
}
