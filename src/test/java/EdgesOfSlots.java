/** Edges of promises 40 to 43: rows of SLOTS. What a row has is seen through counted(). */
final class EdgesOfSlots {
    private static final int MIN = Integer.MIN_VALUE;
    private static final int MAX = Integer.MAX_VALUE;

    private final Edge edge;

    EdgesOfSlots(Edge e) {
        edge = e;
    }

    void run() {
        row();
        tear();
        write();
        cut();
        paste();
        pasteRefused();
        pasteBeyond();
    }

    /** SLOT 0 has 1 2 3 4 5, SLOT 1 has 11 12 13 14, both of WIDTH 1; SLOT 2 has three of WIDTH 2, SLOT 3 nothing. */
    private static NameBoard rows() {
        NameBoard b = Boards.places(1);
        Boards.fill(b, 0, 1, 1, 2, 3, 4, 5);
        Boards.fill(b, 1, 1, 11, 12, 13, 14);
        Boards.fill(b, 2, 2, 21, 22, 23);
        return b;
    }

    /** The numbers of a row, by way of SLOT 3. */
    private static String numbers(NameBoard b, int slot, int width, int n) {
        String numbers = "";
        for (int i = 0; i < n; i++) {
            b.row(3, width, 3);
            b.paste(slot, i, 3, 2, 1);
            boolean came = b.counted(3) == 1;
            numbers += (i == 0 ? "" : " ") + (came ? b.live(0, 0, 0, 0) : -1);
        }
        return numbers;
    }

    private void row() {
        edge.sentence("40", "A SLOT has a row of n numbers of a WIDTH, all 0 (in place of another one): 0.");
        NameBoard b = rows();
        edge.is("in place of another one", b.row(0, 1, 4), 0);
        edge.is("all 0", numbers(b, 0, 1, 4), "0 0 0 0");
        edge.is("of 4 numbers", b.write(0, 4, 1), -7);
        edge.is("the others stay", numbers(b, 1, 1, 4), "11 12 13 14");
        edge.is("of another WIDTH", b.row(0, 2, 3), 0);
        edge.is("of another WIDTH", b.paste(0, 0, 2, 0, 3), 0);
        edge.is("0s put there", numbers(b, 2, 2, 3), "0 0 0");
        edge.is("a row of none", b.row(0, 2, 0), 0);
        edge.is("has no number", b.write(0, 0, 1), -7);
        b = Boards.places(1);
        for (int i = 0; i < 60; i++) {
            b.row(1, 1, 60);
            b.write(1, i, 9);
        }
        b.row(1, 1, 60);
        edge.is("60 numbers, all 0", numbers(b, 1, 1, 60), "0" + " 0".repeat(59));
        edge.taken("slot", (x, v) -> x.row(v, 0, 9), 0, 3);
        edge.taken("width", (x, v) -> x.row(2, v, 9), 0, 3);
        edge.taken("n", (x, v) -> x.row(2, 0, v), 0, 60);

        edge.sentence("40", "-2: there is no such SLOT or WIDTH (0 .. 3), or n is above 60;");
        edge.refusedBeside("slot", 0, 3, -2, (x, v) -> x.row(v, 0, 9));
        edge.refusedBeside("width", 0, 3, -2, (x, v) -> x.row(0, v, 9));
        edge.refused("n", -2, (x, v) -> x.row(0, 0, v), 61, 64, MAX);
        edge.refused("n below 0, of a SLOT", -2, (x, v) -> x.row(v, 0, -1), -1, 4);
        edge.refused("n below 0, of a WIDTH", -2, (x, v) -> x.row(0, v, -1), -1, 4);

        edge.sentence("40", "-3, and the SLOT stays: n is below 0.");
        edge.refused("a row, n", -3, (x, v) -> x.row(0, 3, v), -1, MIN);
        edge.refused("nothing, n", -3, (x, v) -> x.row(2, 3, v), -1, MIN);
    }

    private void tear() {
        edge.sentence("41", "The SLOT has nothing: true;");
        edge.taken("slot", (x, v) -> x.tear(v) ? 1 : -2, 0, 1);
        NameBoard b = rows();
        edge.is("a row of 5", b.tear(0) ? 1 : 0, 1);
        edge.is("nothing", b.write(0, 0, 1), -6);
        edge.is("the others stay", numbers(b, 1, 1, 4), "11 12 13 14");
        b.row(0, 1, 5);
        edge.is("a new row", numbers(b, 0, 1, 5), "0 0 0 0 0");
        b.row(0, 1, 0);
        edge.is("a row of none", b.tear(0) ? 1 : 0, 1);
        b = new NameBoard();
        for (int slot = 0; slot < 4; slot++) {
            b.row(slot, 0, 1);
            edge.is("SLOT " + slot, b.tear(slot) ? 1 : 0, 1);
        }

        edge.sentence("41", "false, if it had nothing, or there is none such.");
        edge.refused("slot", 0, (x, v) -> x.tear(v) ? 1 : 0, 2, 3);
        edge.refusedBeside("slot", 0, 3, 0, (x, v) -> x.tear(v) ? 1 : 0);
        b = rows();
        b.tear(0);
        edge.is("torn already", b.tear(0) ? 1 : 0, 0);
    }

    private void write() {
        edge.sentence("42", "Number i of the SLOT's row is v, cut to its WIDTH: 0.");
        NameBoard b = rows();
        edge.is("the first", b.write(0, 0, 91), 0);
        edge.is("the last", b.write(0, 4, 95), 0);
        edge.is("these alone", numbers(b, 0, 1, 5), "91 2 3 4 95");
        edge.is("of that SLOT alone", numbers(b, 1, 1, 4), "11 12 13 14");
        edge.taken("number", (x, v) -> x.write(0, v, 77), 0, 5);
        for (int i = 0; i < 60; i += 59) {
            NameBoard wide = Boards.places(1);
            wide.row(2, 3, 60);
            edge.is("number " + i + " of 60", wide.write(2, i, 5), 0);
        }

        edge.sentence("42", "-2: there is no such SLOT;");
        edge.refusedBeside("slot", 0, 3, -2, (x, v) -> x.write(v, 0, 77));

        edge.sentence("42", "-6: it has nothing;");
        edge.refused("slot", -6, (x, v) -> x.write(v, 0, 77), 2, 3);
        edge.refused("nothing, number", -6, (x, v) -> x.write(2, v, 77), MIN, -1, MAX);

        edge.sentence("42", "-7: there is no such number.");
        edge.refusedBeside("number", 0, 5, -7, (x, v) -> x.write(0, v, 77));
        edge.refused("another row's number", -7, (x, v) -> x.write(1, v, 77), 3, 5);
        NameBoard none = Boards.places(1);
        none.row(0, 0, 0);
        edge.is("of none", none.write(0, 0, 1), -7);
        none.row(3, 0, 60);
        edge.is("number 60 of 60", none.write(3, 60, 1), -7);
    }

    /** The people that come of v in a row of a WIDTH; -1 if it is refused. */
    private void comes(int width, long v, int want) {
        NameBoard b = Boards.places(1);
        Boards.fill(b, 0, width, 0, 0, v);
        edge.is(v + " cut to WIDTH " + width, b.counted(0) == 1 ? b.live(0, 0, 0, 0) : -1, want);
    }

    private void cut() {
        edge.sentence("42", "cut to its WIDTH");
        comes(0, 127, 127);
        comes(0, 128, -1);
        comes(0, 255, -1);
        comes(0, 256, 0);
        comes(0, 256 + 127, 127);
        comes(0, -1, -1);
        comes(0, -256, 0);
        comes(0, -129, 127);
        comes(1, 2000, 2000);
        comes(1, 2001, -1);
        comes(1, 256, 256);
        comes(1, 65535, -1);
        comes(1, 65536, 0);
        comes(1, 65536 + 2000, 2000);
        comes(1, -65536 + 7, 7);
        comes(2, 65536, -1);
        comes(2, 1L << 32, 0);
        comes(2, (1L << 32) + 2000, 2000);
        comes(2, (1L << 32) - 1, -1);
        comes(2, Long.MIN_VALUE, 0);
        comes(2, Long.MAX_VALUE, -1);
        comes(3, 2000, 2000);
        comes(3, 1L << 32, -1);
        comes(3, Long.MIN_VALUE, -1);
        comes(3, Long.MAX_VALUE, -1);
    }

    private void paste() {
        edge.sentence("43", "So many numbers of a SLOT's row, from one on, are put to another one's (or its own), from one on, as they were: 0.");
        pastes(0, 0, 1, 0, 4, "1 2 3 4 5", "1 2 3 4");
        pastes(0, 1, 1, 0, 4, "1 2 3 4 5", "2 3 4 5");
        pastes(0, 4, 1, 3, 1, "1 2 3 4 5", "11 12 13 5");
        pastes(1, 0, 0, 1, 4, "1 11 12 13 14", "11 12 13 14");
        pastes(0, 2, 1, 1, 2, "1 2 3 4 5", "11 3 4 14");
        pastes(0, 0, 1, 0, 0, "1 2 3 4 5", "11 12 13 14");
        pastes(0, 5, 1, 4, 0, "1 2 3 4 5", "11 12 13 14");
        pastes(0, 0, 0, 1, 4, "1 1 2 3 4", "11 12 13 14");
        pastes(0, 1, 0, 0, 4, "2 3 4 5 5", "11 12 13 14");
        pastes(0, 0, 0, 2, 3, "1 2 1 2 3", "11 12 13 14");
        pastes(0, 0, 0, 0, 5, "1 2 3 4 5", "11 12 13 14");
        for (int width = 0; width < 4; width++) {
            NameBoard b = Boards.places(1);
            b.row(0, width, 60);
            b.row(1, width, 60);
            for (int i = 0; i < 60; i++) {
                b.write(0, i, i + 1);
            }
            edge.is("60 of WIDTH " + width, b.paste(0, 0, 1, 0, 60), 0);
            edge.is("the last", numbers(b, 1, width, 60), numbers(b, 0, width, 60));
        }
        edge.taken("n", (x, v) -> x.paste(0, 3, 0, 0, v), 2, 3);
    }

    private void pastes(int slot, int i, int to, int k, int n, String zero, String one) {
        NameBoard b = rows();
        String what = "paste(" + slot + ", " + i + ", " + to + ", " + k + ", " + n + ")";
        edge.is(what, b.paste(slot, i, to, k, n), 0);
        edge.is(what + ", SLOT 0", numbers(b, 0, 1, 5), zero);
        edge.is(what + ", SLOT 1", numbers(b, 1, 1, 4), one);
    }

    private void pasteRefused() {
        edge.sentence("43", "-2: there is no such SLOT;");
        edge.refusedBeside("slot", 0, 3, -2, (x, v) -> x.paste(v, 0, 1, 0, 1));
        edge.refusedBeside("to", 0, 3, -2, (x, v) -> x.paste(0, 0, v, 0, 1));
        edge.refused("nothing to SLOT", -2, (x, v) -> x.paste(2, 0, v, 0, 1), -1, 4);

        edge.sentence("43", "-6: one has nothing;");
        edge.refused("to", -6, (x, v) -> x.paste(0, 0, v, 0, 1), 2, 3);
        edge.refused("slot", -6, (x, v) -> x.paste(v, 0, 0, 0, 1), 2, 3);
        edge.refused("both", -6, (x, v) -> x.paste(v, 0, v, 0, 0), 2, 3);
        edge.refused("to nothing, n", -6, (x, v) -> x.paste(0, 0, 2, 0, v), MIN, -1, 0, MAX);

        edge.sentence("43", "-8: they are not of one WIDTH;");
        edge.refused("n", -8, (x, v) -> x.paste(0, 0, 1, 0, v), 0, 1, 3);
        edge.refused("n beyond", -8, (x, v) -> x.paste(0, 0, 1, 0, v), MIN, -1, 4, MAX);
        for (int one = 0; one < 4; one++) {
            for (int other = 0; other < 4; other++) {
                NameBoard b = new NameBoard();
                b.row(0, one, 1);
                b.row(1, other, 1);
                edge.is("WIDTH " + one + " to " + other, b.paste(0, 0, 1, 0, 1), one == other ? 0 : -8);
            }
        }
    }

    private void pasteBeyond() {
        edge.sentence("43", "-7, and nothing happens: some are beyond their rows, or a place or n is below 0.");
        edge.on(EdgesOfSlots::rows);
        edge.refused("n from 0", -7, (x, v) -> x.paste(0, 0, 1, 0, v), MIN, -1, 5, 6, MAX);
        edge.refused("n of its own", -7, (x, v) -> x.paste(0, 0, 0, 0, v), MIN, -1, 6, 60, MAX);
        edge.refused("two from", -7, (x, v) -> x.paste(0, v, 1, 0, 2), MIN, -1, 4, 5, MAX - 1, MAX);
        edge.refused("two to", -7, (x, v) -> x.paste(0, 0, 1, v, 2), MIN, -1, 3, 4, MAX - 1, MAX);
        edge.refused("none from", -7, (x, v) -> x.paste(0, v, 1, 0, 0), MIN, -1, 6, MAX);
        edge.refused("none to", -7, (x, v) -> x.paste(0, 0, 1, v, 0), MIN, -1, 5, MAX);
        edge.refused("from and n", -7, (x, v) -> x.paste(0, v, 1, 0, v), MIN, -1, 3, MAX);
        edge.refused("to and n", -7, (x, v) -> x.paste(0, 0, 1, v, v), MIN, -1, 3, MAX);
        edge.refused("n of a row of 4", -7, (x, v) -> x.paste(1, 0, 0, 0, v), 5);
        NameBoard none = new NameBoard();
        none.row(0, 0, 0);
        edge.is("none of none", none.paste(0, 0, 0, 0, 0), 0);
        edge.is("one of none", none.paste(0, 0, 0, 0, 1), -7);
    }
}
