/** Promises 40 to 43: rows of SLOTS. What a row has is seen through counted(). */
public final class SlotTest {
    private static final Due due = new Due();

    public static void main(String[] args) {
        row();
        tear();
        write();
        cut();
        paste();
        pasteRefused();
        due.end();
    }

    private static NameBoard land() {
        NameBoard b = new NameBoard();
        b.place(0, 0);
        return b;
    }

    private static void row() {
        due.part("40 row");
        NameBoard b = land();
        due.is("slot -1", b.row(-1, 0, 1), -2);
        due.is("slot 4", b.row(4, 0, 1), -2);
        due.is("width -1", b.row(0, -1, 1), -2);
        due.is("width 4", b.row(0, 4, 1), -2);
        due.is("n 61", b.row(0, 0, 61), -2);
        due.is("n MAX", b.row(0, 0, Integer.MAX_VALUE), -2);
        due.is("n -1", b.row(0, 0, -1), -3);
        due.is("n MIN", b.row(0, 0, Integer.MIN_VALUE), -3);
        due.is("n -1, width 4", b.row(0, 4, -1), -2);
        due.is("n -1, slot 4", b.row(4, 0, -1), -2);
        due.is("count(12)", b.count(12), 0);
        due.is("n 0", b.row(0, 0, 0), 0);
        due.is("count(12)", b.count(12), 1);
        due.is("n 60", b.row(3, 3, 60), 0);
        due.is("write(3, 59)", b.write(3, 59, 1), 0);
        due.is("write(3, 60)", b.write(3, 60, 1), -7);
        due.is("write(0, 0)", b.write(0, 0, 1), -7);
        b.row(3, 3, 3);
        b.write(3, 2, 50);
        due.is("n -1", b.row(3, 0, -1), -3);
        b.counted(3);
        due.is("the SLOT stays", b.live(0, 0, 0, 0), 50);
        due.is("in place of another one", b.row(3, 3, 3), 0);
        b.counted(3);
        due.is("all 0", b.live(0, 0, 0, 0), 0);
        b.write(3, 0, 7);
        b.row(3, 3, 3);
        due.is("the first one, too", b.counted(3), 1);
        due.is("write(3, 3)", b.write(3, 3, 1), -7);
        due.is("count(12)", b.count(12), 2);
    }

    private static void tear() {
        due.part("41 tear");
        NameBoard b = land();
        due.is("it had nothing", b.tear(0) ? 1 : 0, 0);
        due.is("slot -1", b.tear(-1) ? 1 : 0, 0);
        due.is("slot 4", b.tear(4) ? 1 : 0, 0);
        b.row(0, 2, 3);
        b.row(1, 2, 3);
        due.is("it had a row", b.tear(0) ? 1 : 0, 1);
        due.is("it has nothing", b.tear(0) ? 1 : 0, 0);
        due.is("write", b.write(0, 0, 1), -6);
        due.is("another one stays", b.write(1, 0, 1), 0);
        due.is("count(12)", b.count(12), 1);
        b.row(0, 2, 0);
        due.is("a row of none", b.tear(0) ? 1 : 0, 1);
    }

    private static void write() {
        due.part("42 write");
        NameBoard b = land();
        due.is("slot -1", b.write(-1, 0, 1), -2);
        due.is("slot 4", b.write(4, 0, 1), -2);
        due.is("nothing", b.write(0, 0, 1), -6);
        due.is("nothing, number -1", b.write(0, -1, 1), -6);
        b.row(0, 1, 3);
        due.is("number -1", b.write(0, -1, 1), -7);
        due.is("number 3", b.write(0, 3, 1), -7);
        due.is("number MAX", b.write(0, Integer.MAX_VALUE, 1), -7);
        due.is("number 2", b.write(0, 2, 77), 0);
        due.is("counted", b.counted(0), 1);
        due.is("people", b.live(0, 0, 0, 0), 77);
    }

    private static void cutIs(int width, long v, int people) {
        NameBoard b = land();
        b.row(0, width, 3);
        b.write(0, 2, v);
        int came = b.counted(0);
        due.is("width " + width + ", " + v, came == 1 ? b.live(0, 0, 0, 0) : -1, people);
    }

    private static void cut() {
        due.part("42 cut to its WIDTH");
        cutIs(0, 256 + 5, 5);
        cutIs(0, 127, 127);
        cutIs(0, 128, -1);
        cutIs(0, -1, -1);
        cutIs(0, -251, 5);
        cutIs(1, 65536 + 2000, 2000);
        cutIs(1, 261, 261);
        cutIs(1, 65535, -1);
        cutIs(2, (1L << 32) + 6, 6);
        cutIs(2, 65536, -1);
        cutIs(2, Long.MIN_VALUE, 0);
        cutIs(3, (1L << 32) + 6, -1);
        cutIs(3, 2000, 2000);
        cutIs(3, Long.MIN_VALUE, -1);
    }

    /** A row's numbers, by people() of PLACES: each number is put last of three, and counted. */
    private static String numbers(NameBoard b, int slot, int n) {
        StringBuilder text = new StringBuilder();
        for (int i = 0; i < n; i++) {
            b.row(3, 1, 3);
            b.paste(slot, i, 3, 2, 1);
            b.counted(3);
            text.append(i == 0 ? "" : " ").append(b.live(0, 0, 0, 0));
        }
        return text.toString();
    }

    private static NameBoard rows() {
        NameBoard b = land();
        b.row(0, 1, 5);
        b.row(1, 1, 4);
        for (int i = 0; i < 5; i++) {
            b.write(0, i, i + 1);
        }
        return b;
    }

    private static void paste() {
        due.part("43 paste");
        NameBoard b = rows();
        due.is("paste", b.paste(0, 1, 1, 0, 3), 0);
        due.is("put there", numbers(b, 1, 4), "2 3 4 0");
        due.is("still here", numbers(b, 0, 5), "1 2 3 4 5");
        due.is("paste up its own", b.paste(0, 0, 0, 1, 4), 0);
        due.is("as they were", numbers(b, 0, 5), "1 1 2 3 4");
        due.is("paste down its own", b.paste(0, 1, 0, 0, 4), 0);
        due.is("as they were", numbers(b, 0, 5), "1 2 3 4 4");
        due.is("none, at the end", b.paste(0, 5, 1, 4, 0), 0);
        due.is("all", b.paste(1, 0, 0, 1, 4), 0);
        due.is("put there", numbers(b, 0, 5), "1 2 3 4 0");
    }

    private static void pasteRefused() {
        due.part("43 paste, refused");
        NameBoard b = rows();
        due.is("slot -1", b.paste(-1, 0, 1, 0, 1), -2);
        due.is("slot 4", b.paste(4, 0, 1, 0, 1), -2);
        due.is("to -1", b.paste(0, 0, -1, 0, 1), -2);
        due.is("to 4", b.paste(0, 0, 4, 0, 1), -2);
        due.is("from nothing", b.paste(2, 0, 1, 0, 1), -6);
        due.is("to nothing", b.paste(0, 0, 2, 0, 1), -6);
        due.is("to nothing, beyond", b.paste(0, 9, 2, 0, 1), -6);
        b.row(2, 2, 5);
        due.is("of two WIDTHS", b.paste(0, 0, 2, 0, 1), -8);
        due.is("of two WIDTHS, beyond", b.paste(0, 9, 2, 0, 1), -8);
        due.is("beyond its row", b.paste(0, 3, 1, 0, 3), -7);
        due.is("beyond the other's row", b.paste(0, 0, 1, 2, 3), -7);
        due.is("i below 0", b.paste(0, -1, 1, 0, 1), -7);
        due.is("k below 0", b.paste(0, 0, 1, -1, 1), -7);
        due.is("n below 0", b.paste(0, 0, 1, 0, -1), -7);
        due.is("none, beyond", b.paste(0, 6, 1, 0, 0), -7);
        due.is("none, beyond the other's", b.paste(0, 0, 1, 5, 0), -7);
        due.is("great numbers", b.paste(0, Integer.MAX_VALUE, 1, 0, Integer.MAX_VALUE), -7);
        due.is("great numbers", b.paste(0, 1, 1, Integer.MAX_VALUE, 4), -7);
        due.is("great numbers", b.paste(0, Integer.MIN_VALUE, 1, 0, Integer.MIN_VALUE), -7);
        due.is("nothing happens", numbers(b, 1, 4), "0 0 0 0");
    }
}
