/** Promises 37 to 39: counts, and IMAGES gone back to. */
public final class ImageTest {
    private static final int NONE = NameBoard.NONE;
    private static final Due due = new Due();

    public static void main(String[] args) {
        count();
        keep();
        backToAll();
        overwritten();
        actByYear();
        notKept();
        due.end();
    }

    /** Something of all that is told and done. */
    private static NameBoard full() {
        NameBoard b = new NameBoard();
        b.place(0, 0);
        b.place(3, 4);
        b.part(1, 0);
        b.people(0, 0, 5);
        b.people(1, 1, 9);
        Due.spelling(b, 0, "a>e;");
        Due.act(b, "first 0; both; votes 60;");
        Due.name(b, "aba", 0, 0);
        Due.name(b, "bab", 0, 1);
        Due.settle(b, 0);
        b.next(10);
        Due.settle(b, 1);
        b.sign(0, 40);
        b.sign(1, 50);
        b.ask(0);
        b.vote(2, 0, true);
        return b;
    }

    private static void count() {
        due.part("37 count");
        NameBoard b = full();
        b.paper(3);
        Due.tape(b, "zz").written();
        Due.tape(b, "four");
        b.row(0, 0, 0);
        b.row(3, 0, 5);
        b.next(1);
        b.undo(0, 1);
        int[] want = {11, 2, 2, 1, 1, 3, 2, 2, 1, 4, 1, 1, 2};
        for (int what = 0; what < want.length; what++) {
            due.is("count(" + what + ")", b.count(what), want[what]);
        }
        due.is("count(13)", b.count(13), NONE);
        due.is("count(-1)", b.count(-1), NONE);
    }

    private static String told(NameBoard b) {
        StringBuilder text = new StringBuilder();
        for (int what = 0; what <= 11; what++) {
            text.append(what == 9 || what == 10 ? 0 : b.count(what)).append(' ');
        }
        for (int year = 0; year < 40; year++) {
            for (int name = 0; name < b.count(2); name++) {
                b.spell(name, year);
                text.append(Due.inHand(b)).append(' ').append(Due.leads(b)).append(' ');
            }
            for (int place = 0; place < 2; place++) {
                b.shown(place, year, 39);
                text.append(Due.inHand(b)).append(' ').append(Due.leads(b)).append(' ');
                text.append(b.live(place, NONE, year, 39)).append(' ').append(b.first(place, year, 39)).append(' ');
                text.append(b.beside(place, year, 39)).append(' ');
            }
        }
        for (int sign = 0; sign < 3; sign++) {
            for (int what = 0; what < 6; what++) {
                text.append(b.signOf(sign, what)).append(' ');
            }
        }
        return text.append(b.swings(0)).append(' ').append(b.swings(1)).append(' ').append(b.alikes(399)).toString();
    }

    private static void changeAll(NameBoard b) {
        b.next(5);
        b.place(7, 7);
        b.part(1, NONE);
        b.people(0, 0, 6);
        b.people(0, 2, 60);
        Due.spelling(b, 0, "a>o;b>d;");
        Due.spelling(b, 1, "a>o;b>d;");
        Due.act(b, "first 2 if year > 1; votes 10; sign 1;");
        Due.name(b, "ccc", 1, 2);
        b.vote(2, 0, false);
        b.close(2);
        b.undo(0, 0);
        b.ask(2);
        b.sign(2, 3);
        b.anew(0);
    }

    private static void keep() {
        due.part("38, 39 keep and back");
        NameBoard b = full();
        due.is("keep(-1)", b.keep(-1), -2);
        due.is("keep(3)", b.keep(3), -2);
        due.is("back(-1)", b.back(-1), -2);
        due.is("back(3)", b.back(3), -2);
        due.is("back(2)", b.back(2), -6);
        due.is("keep(2)", b.keep(2), 0);
        due.is("back(1)", b.back(1), -6);
        String then = told(b);
        changeAll(b);
        String later = told(b);
        due.is("something changed", then.equals(later) ? 1 : 0, 0);
        due.is("keep(0)", b.keep(0), 0);
        due.is("back(2)", b.back(2), 0);
        due.is("as it was", told(b), then);
        changeAll(b);
        due.is("the same again", told(b), later);
        b.back(2);
        due.is("as it was", told(b), then);
        b.back(0);
        due.is("the other IMAGE", told(b), later);
        b.keep(2);
        changeAll(b);
        b.back(2);
        due.is("kept in place of it", told(b), later);
    }

    private static void backToAll() {
        due.part("39 an open HEARING comes back with its votes");
        NameBoard b = full();
        b.keep(0);
        b.vote(2, 0, false);
        due.is("close(2)", b.close(2), 1);
        b.back(0);
        due.is("ask(1), one is open", b.ask(1), -5);
        due.is("close(2)", b.close(2), 0);
        b.back(0);
        b.vote(2, 1, false);
        due.is("close(2)", b.close(2), 1);
        NameBoard empty = new NameBoard();
        empty.keep(1);
        empty.next(9);
        empty.place(1, 1);
        Due.name(empty, "x", 0, 0);
        empty.back(1);
        due.is("count(0)", empty.count(0), 0);
        due.is("count(1)", empty.count(1), 0);
        due.is("count(2)", empty.count(2), 0);
        due.is("place", empty.place(0, 0), 0);
    }

    /** Between an IMAGE and the way back to it, all that it has is told otherwise in the same rows. */
    private static void overwritten() {
        due.part("39 told otherwise in between");
        NameBoard b = new NameBoard();
        b.keep(0);
        tellOneWay(b);
        String one = told(b) + closings(b);
        b.back(0);
        tellOneWay(b);
        b.keep(1);
        b.back(0);
        tellOtherWay(b);
        String other = told(b) + closings(b);
        due.is("they are unlike", one.equals(other) ? 1 : 0, 0);
        b.back(0);
        due.is("nothing is told", b.count(1) + b.count(2) + b.count(3) + b.count(4) + b.count(5) + b.count(6) + b.count(7), 0);
        tellOtherWay(b);
        b.keep(2);
        b.back(1);
        due.is("the one way", told(b) + closings(b), one);
        b.back(2);
        due.is("the other way", told(b) + closings(b), other);
        b.back(1);
        due.is("the one way", told(b) + closings(b), one);
    }

    /** An ACT that looks at the YEAR, gone back to over one that does not. */
    private static void actByYear() {
        due.part("39 an ACT that looks at the YEAR");
        NameBoard b = new NameBoard();
        b.place(0, 0);
        Due.name(b, "a", 0, 0);
        Due.settle(b, 0);
        b.sign(0, 1);
        b.keep(0);
        Due.act(b, "first 1 if year > 20;");
        b.next(50);
        b.keep(1);
        due.is("LAME from 21 on", b.signOf(0, 1), 31);
        b.back(0);
        Due.act(b, "first 1 if people > 20;");
        b.back(1);
        due.is("LAME from 21 on", b.signOf(0, 1), 31);
    }

    private static void tellOneWay(NameBoard b) {
        b.place(0, 0);
        b.place(3, 4);
        Due.spelling(b, 0, "after b a>e before #;c>-;");
        Due.act(b, "first 0 if not share 0 < 30 and year < 30; both if parts = 1; far 5 apart 1; dead 7; votes 60; sign 6;");
        b.part(1, 0);
        b.people(0, 0, 5);
        b.people(1, 1, 9);
        Due.name(b, "abacba", 0, 0);
        Due.tape(b, "bab").name(0, 1, 0);
        Due.name(b, "abecba", 1, 0);
        Due.settle(b, 0);
        b.next(10);
        Due.spelling(b, 1, "b>p;");
        b.people(1, 1, 3);
        Due.settle(b, 1);
        b.sign(0, 40);
        b.next(5);
        b.undo(0, 0);
        b.sign(1, 50);
        b.ask(2);
        b.vote(2, 0, true);
        b.vote(2, 1, true);
        b.vote(2, 2, false);
    }

    private static void tellOtherWay(NameBoard b) {
        b.place(40, 0);
        b.place(7, 400);
        b.next(2);
        Due.spelling(b, 0, "a>o before b;b>dd;c>x;d>yy;");
        Due.act(b, "first 2 if share 1 > 10 and people > 3; votes 10; dead 70; both; far 999 apart 9; sign 1;");
        b.people(1, 2, 7);
        b.part(0, 1);
        b.people(0, 0, 8);
        Due.name(b, "cc", 1, 2);
        Due.name(b, "ccdd", 1, 0);
        Due.tape(b, "d").name(0, 1, 2);
        Due.settle(b, 1);
        Due.settle(b, 2);
        Due.act(b, "first 1; both;");
        Due.spelling(b, 2, "c>a;");
        b.sign(1, 3);
        b.next(9);
        Due.settle(b, 0);
        b.sign(0, 4);
        b.next(1);
        b.ask(2);
        b.vote(3, 4, false);
        b.vote(3, 0, true);
    }

    /** What is open is closed, and each NAME is put to the board once more; then all is as it was. */
    private static String closings(NameBoard b) {
        int was = b.count(5);
        StringBuilder text = new StringBuilder();
        for (int i = 0; i < was; i++) {
            text.append(b.close(i)).append(' ');
        }
        for (int i = 0; i < b.count(2); i++) {
            text.append(Due.settle(b, i)).append(' ');
        }
        for (int i = 0; i < 3; i++) {
            for (int k = 0; k < 3; k++) {
                text.append(b.settled(i, k, 399, 399)).append(' ').append(b.edits(i, k, 399)).append(' ');
            }
        }
        return text.toString();
    }

    private static void notKept() {
        due.part("38 what no IMAGE has");
        NameBoard b = full();
        Due.tape(b, "four");
        b.row(0, 0, 3);
        b.paper(0);
        b.spell(0, 0);
        b.keep(0);
        b.end(2);
        b.row(1, 0, 3);
        b.tear(0);
        b.spell(1, 0);
        b.back(0);
        due.is("the TAPE", b.count(9), 2);
        due.is("SLOTS", b.write(1, 0, 1), 0);
        due.is("SLOTS", b.write(0, 0, 1), -6);
        due.is("what is IN HAND", Due.inHand(b), "bab");
        due.is("the PAPER", Due.tape(b, "x").written(), 1);
        NameBoard early = new NameBoard();
        early.keep(0);
        early.next(9);
        early.paper(9);
        early.back(0);
        due.is("a PAPER of a YEAR to come", early.join(), 0);
    }
}
