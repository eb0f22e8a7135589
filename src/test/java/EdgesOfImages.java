import java.util.List;
import java.util.function.Consumer;

/** Edges of promises 37 to 39: counts, and IMAGES gone back to. */
final class EdgesOfImages {
    private static final int NONE = NameBoard.NONE;
    private static final int MIN = Integer.MIN_VALUE;
    private static final int MAX = Integer.MAX_VALUE;

    private final Edge edge;

    EdgesOfImages(Edge e) {
        edge = e;
    }

    void run() {
        count();
        keep();
        notKept();
        back();
    }

    private void count() {
        edge.sentence("37", "0 NOW, 1 PLACES, 2 NAMES, 3 SPELLINGS, 4 ACTS, 5 HEARINGS, 6 COUNTS kept, 7 SIGNS, 8 LAME ones, "
                + "9 bytes of the TAPE, 10 WRITTEN names, 11 NAMES SETTLED now, 12 SLOTS that have a row.");
        int[] full = {12, 4, 6, 2, 1, 7, 6, 4, 2, 4, 2, 4, 2};
        for (int what = 0; what < full.length; what++) {
            edge.is("count(" + what + ")", Boards.FULL.get().count(what), full[what]);
            edge.is("count(" + what + ") of a new object", new NameBoard().count(what), 0);
        }
        NameBoard last = new NameBoard();
        last.next(399);
        edge.is("the last YEAR", last.count(0), 399);
        edge.is("40 PLACES", Boards.PLACES.get().count(1), 40);
        edge.is("80 NAMES", Boards.NAMES.get().count(2), 80);
        edge.is("12 SPELLINGS", Boards.SPELLINGS.get().count(3), 12);
        edge.is("8 ACTS", Boards.ACTS.get().count(4), 8);
        edge.is("60 HEARINGS, closed ones", Boards.HEARINGS.get().count(5), 60);
        edge.is("200 COUNTS", Boards.COUNTS.get().count(6), 200);
        edge.is("40 SIGNS", Boards.SIGNS.get().count(7), 40);
        edge.is("40 SIGNS, none LAME", Boards.SIGNS.get().count(8), 0);
        edge.is("40 SIGNS, all LAME", Boards.lame(new int[40]).count(8), 40);
        edge.is("500 bytes", Due.tape(new NameBoard(), "a".repeat(500)).count(9), 500);
        edge.is("7 WRITTEN names", Boards.WRITTEN.get().count(10), 7);
        edge.is("60 NAMES SETTLED", settled(60).count(11), 60);
        NameBoard b = settled(60);
        b.undo(0, 0);
        edge.is("one UNDONE", b.count(11), 59);
        NameBoard rows = new NameBoard();
        for (int slot = 0; slot < 4; slot++) {
            rows.row(slot, slot, 0);
            edge.is("SLOTS that have a row", rows.count(12), slot + 1);
        }
        rows.tear(0);
        edge.is("one torn", rows.count(12), 3);

        edge.sentence("37", "NONE for others.");
        edge.refused("what", NONE, (x, v) -> x.count(v), MIN, -1, 13, MAX);
    }

    /** So many PLACES and TONGUES with a NAME SETTLED; the first of them twice, if there is room for it. */
    private static NameBoard settled(int n) {
        NameBoard b = Boards.places(20);
        for (int i = 0; i < n; i++) {
            Due.name(b, "a", i / 3, i % 3);
            Due.settle(b, i);
        }
        return b;
    }

    /** Each call that tells or does something, taken. */
    private static final List<Consumer<NameBoard>> TELLINGS = List.of(
            b -> b.next(1), b -> b.place(9, 9), b -> b.part(2, 0), b -> b.people(0, 2, 2000), b -> b.counted(0),
            b -> b.name(0, 0, NONE), b -> Due.spelling(b, 1, "b>x;c>y;"), b -> Due.act(b, "first 2; both; sign 1;"),
            b -> b.ask(5), b -> b.vote(5, 2, true), b -> b.vote(6, 3, false), b -> b.close(6), b -> b.undo(0, 1),
            b -> b.sign(0, 99), b -> b.anew(0), b -> b.next(387), b -> b.part(1, NONE), b -> b.close(5));

    private void keep() {
        edge.sentence("38", "IMAGE k (0 .. 2) keeps all that is told and done");
        String was = Picture.told(Boards.FULL.get());
        for (int k = 0; k <= 2; k++) {
            for (Consumer<NameBoard> telling : TELLINGS) {
                NameBoard b = Boards.FULL.get();
                int call = TELLINGS.indexOf(telling);
                edge.is("keep(" + k + ")", b.keep(k), 0);
                telling.accept(b);
                edge.is("back(" + k + ")", b.back(k), 0);
                edge.is("all is as it was ahead of call " + call, Edge.difference(Picture.told(b), was), "");
                b = Boards.FULL.get();
                telling.accept(b);
                edge.is("call " + call + " tells or does something", Picture.told(b).equals(was) ? 1 : 0, 0);
            }
        }
        NameBoard b = new NameBoard();
        b.keep(0);
        b.next(1);
        b.keep(1);
        b.next(1);
        b.keep(2);
        b.next(1);
        for (int k = 2; k >= 0; k--) {
            b.back(k);
            edge.is("IMAGE " + k + " of three", b.count(0), k);
        }
        b.next(9);
        b.keep(1);
        b.back(0);
        b.back(1);
        edge.is("kept in place of another one", b.count(0), 9);
        b.back(2);
        edge.is("the others stay", b.count(0), 2);
        edge.taken("k", (x, v) -> x.keep(v), 0, 2);

        edge.sentence("38", "-2: no such k.");
        edge.refusedBeside("k", 0, 2, -2, (x, v) -> x.keep(v));
    }

    private void notKept() {
        edge.sentence("38", "(not the TAPE, SLOTS, the PAPER, what is IN HAND or was found): 0.");
        NameBoard b = Boards.FULL.get();
        NameBoard other = Boards.FULL.get();
        edge.is("keep(2)", b.keep(2), 0);
        otherwise(b);
        otherwise(other);
        edge.is("back(2)", b.back(2), 0);
        edge.is("the TAPE", b.count(9), 3);
        edge.is("the PAPER", b.count(10), 1);
        edge.is("SLOTS", b.count(12), 3);
        edge.is("what is IN HAND", Due.inHand(b), "cacc");
        edge.is("a FAULT", b.fault(0), 3);
        edge.is("its place", b.fault(1), 84);
        edge.is("the PLAN", b.planned(1), 1);
        edge.is("what was JOINED", b.joined(0), 3);
        b.tear(2);
        other.tear(2);
        edge.is("SLOT 0", b.counted(0), 0);
        // All but the IMAGE, which the other board does not have.
        other.keep(2);
        edge.is("all of these", Edge.difference(Picture.of(b), Picture.of(other)), "");
    }

    /** All that no IMAGE keeps is another one; nothing is told. */
    private static void otherwise(NameBoard b) {
        Due.act(b, "dead 1;".repeat(12) + "dead");
        b.row(0, 3, 3);
        b.write(0, 1, 7);
        b.row(2, 0, 1);
        b.paper(12);
        Due.tape(b, "lea").written();
        b.join();
        b.plan(9);
        b.spell(2, 0);
        Due.tape(b, "xyz");
    }

    /** Tells one thing, goes back to nothing, and tells another: each as it was, seen from the other. */
    private static String otherwiseBetween(boolean one) {
        NameBoard b = new NameBoard();
        b.keep(1);
        Boards.fillFull(b);
        b.keep(2);
        b.back(1);
        Boards.fillOtherwise(b);
        b.keep(0);
        b.back(one ? 2 : 0);
        b.back(one ? 0 : 2);
        b.back(one ? 2 : 0);
        return Picture.told(b);
    }

    private static String toldOtherwise() {
        NameBoard b = new NameBoard();
        Boards.fillOtherwise(b);
        return Picture.told(b);
    }

    /** A PLACE at x, y is in an IMAGE, one at otherX, otherY is told in between: is it within 5 miles of 0, 0? */
    private static int alikeBetween(int x, int y, int otherX, int otherY) {
        NameBoard b = new NameBoard();
        b.keep(0);
        b.place(0, 0);
        b.place(x, y);
        Due.act(b, "far 5 apart 0;");
        Due.name(b, "aa", 0, 0);
        Due.name(b, "aa", 1, 0);
        Due.settle(b, 0);
        b.keep(1);
        b.back(0);
        b.place(otherY, otherX);
        b.place(otherX, otherY);
        b.back(1);
        return Due.settle(b, 1);
    }

    private void lastConds() {
        NameBoard b = Boards.places(1);
        b.keep(0);
        for (int act = 0; act < 8; act++) {
            Due.act(b, "dead 1;".repeat(11) + "first 2 if year<99 and year<98 and year<97 and not year=" + act + ";");
        }
        b.keep(1);
        b.back(0);
        for (int act = 0; act < 8; act++) {
            Due.act(b, "dead 1;".repeat(11) + "first 1 if not share 0=1 and not share 0=2 and not share 0=3 and people>4;");
        }
        b.back(1);
        edge.is("the last COND of the last LINE of the last ACT holds", b.first(0, 6, 0), 2);
        edge.is("the last COND of the last LINE of the last ACT does not hold", b.first(0, 7, 0), 0);
        edge.is("the first one does not hold", b.first(0, 99, 0), 0);
    }

    private void votesOfNone() {
        NameBoard b = Boards.names(1);
        b.keep(0);
        b.ask(0);
        b.vote(0, 0, true);
        b.vote(0, 1, true);
        b.back(0);
        b.ask(0);
        edge.is("nobody voted in that HEARING", b.close(0), 1);
        b.back(0);
        b.ask(0);
        b.vote(0, 2, false);
        edge.is("one voted in that HEARING, against", b.close(0), 1);
    }

    private void back() {
        edge.sentence("39", "All that is as IMAGE k has it: 0.");
        NameBoard b = Boards.FULL.get();
        b.keep(1);
        edge.is("back(0)", b.back(0), 0);
        edge.is("NOW then", b.count(0), 5);
        edge.is("SIGNS then", b.count(7), 3);
        edge.is("HEARINGS then", b.count(5), 5);
        edge.is("COUNTS then", b.count(6), 5);
        b.next(300);
        b.undo(0, 0);
        edge.is("back(0) once more", b.back(0), 0);
        edge.is("NOW then", b.count(0), 5);
        edge.is("SETTLED then", b.settled(0, 0, 399, 399), 0);
        edge.is("back(1)", b.back(1), 0);
        edge.is("later than the other one", Edge.difference(Picture.told(b), Picture.told(Boards.FULL.get())), "");
        NameBoard empty = new NameBoard();
        empty.keep(2);
        empty.place(0, 0);
        empty.next(1);
        empty.back(2);
        edge.is("an IMAGE of a new object", Edge.difference(Picture.told(empty), Picture.told(new NameBoard())), "");
        edge.is("an IMAGE of a new object is not nothing", empty.back(2), 0);
        edge.is("told otherwise in between", Edge.difference(otherwiseBetween(true), Picture.told(Boards.FULL.get())), "");
        edge.is("and that once more", Edge.difference(otherwiseBetween(false), toldOtherwise()), "");
        votesOfNone();
        lastConds();
        edge.is("where PLACES lie, near", alikeBetween(3, 4, 900, 0), 3);
        edge.is("where PLACES lie, far", alikeBetween(3, 5, 0, 0), 0);
        edge.taken("k", (x, v) -> x.back(v), 0);

        edge.sentence("39", "-2: no such k; -6: it has nothing.");
        edge.refusedBeside("k", 0, 2, -2, (x, v) -> x.back(v));
        edge.refused("k", -6, (x, v) -> x.back(v), 1, 2);
        for (int k = 0; k <= 2; k++) {
            edge.is("IMAGE " + k + " of a new object", new NameBoard().back(k), -6);
        }
    }
}
