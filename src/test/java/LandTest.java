/** Promises 1 to 9: a new object, the TAPE, the YEAR, PLACES and who lives there. */
public final class LandTest {
    private static final int NONE = NameBoard.NONE;
    private static final Due due = new Due();

    public static void main(String[] args) {
        newObject();
        feed();
        end();
        next();
        place();
        part();
        people();
        counted();
        live();
        due.end();
    }

    private static void newObject() {
        due.part("1 a new object");
        NameBoard b = new NameBoard();
        for (int what = 0; what <= 12; what++) {
            due.is("count(" + what + ")", b.count(what), 0);
        }
        due.is("fault(0)", b.fault(0), 0);
        due.is("letter(0)", b.letter(0), NONE);
        for (int slot = 0; slot < 4; slot++) {
            due.is("write(" + slot + ", 0, 1)", b.write(slot, 0, 1), -6);
        }
        for (int k = 0; k < 3; k++) {
            due.is("back(" + k + ")", b.back(k), -6);
        }
        b.place(1, 1);
        due.is("another object's count(1)", new NameBoard().count(1), 0);
    }

    private static void feed() {
        due.part("2 feed");
        NameBoard b = new NameBoard();
        due.is("feed", b.feed(0x61626364, 0x65666768, 0x696a6b6c, 0x6d6e6f70, 0x71727374), 20);
        due.is("count(9)", b.count(9), 20);
        b.end(12);
        b.place(0, 0);
        due.is("name", b.name(0, 0, NONE), 0);
        b.spell(0, 0);
        due.is("the highest byte first", Due.inHand(b), "abcdefghijkl");
        b = new NameBoard();
        for (int i = 1; i <= 25; i++) {
            due.is("feed " + i, b.feed(0, -1, 0, -1, 0), 20 * i);
        }
        due.is("feed 26", b.feed(0, 0, 0, 0, 0), NONE);
        due.is("count(9)", b.count(9), 500);
        b.end(480);
        due.is("feed behind 480", b.feed(0, 0, 0, 0, 0), 500);
        b.end(481);
        due.is("feed behind 481", b.feed(0, 0, 0, 0, 0), NONE);
        due.is("count(9)", b.count(9), 481);
    }

    private static void end() {
        due.part("3 end");
        NameBoard b = new NameBoard();
        due.is("end(0)", b.end(0), 0);
        due.is("end(1)", b.end(1), NONE);
        b.feed(1, 2, 3, 4, 5);
        due.is("end(21)", b.end(21), NONE);
        due.is("end(-1)", b.end(-1), NONE);
        due.is("end(MIN)", b.end(Integer.MIN_VALUE), NONE);
        due.is("count(9)", b.count(9), 20);
        due.is("end(20)", b.end(20), 20);
        due.is("end(7)", b.end(7), 7);
        due.is("end(8)", b.end(8), NONE);
        due.is("count(9)", b.count(9), 7);
    }

    private static void next() {
        due.part("4 next");
        NameBoard b = new NameBoard();
        due.is("next(0)", b.next(0), 0);
        due.is("next(-1)", b.next(-1), NONE);
        due.is("next(400)", b.next(400), NONE);
        due.is("next(5)", b.next(5), 5);
        due.is("next(395)", b.next(395), NONE);
        due.is("next(MAX)", b.next(Integer.MAX_VALUE), NONE);
        due.is("count(0)", b.count(0), 5);
        due.is("next(394)", b.next(394), 399);
        due.is("next(1)", b.next(1), NONE);
        due.is("next(0)", b.next(0), 399);
        due.is("next(399) of a new one", new NameBoard().next(399), 399);
    }

    private static void place() {
        due.part("5 place");
        NameBoard b = new NameBoard();
        due.is("place(-1, 0)", b.place(-1, 0), -2);
        due.is("place(0, -1)", b.place(0, -1), -2);
        due.is("place(1000, 0)", b.place(1000, 0), -2);
        due.is("place(0, 1000)", b.place(0, 1000), -2);
        for (int i = 0; i < 40; i++) {
            due.is("place " + i, b.place(i == 0 ? 999 : 0, i == 1 ? 999 : 0), i);
        }
        due.is("place 40", b.place(0, 0), -3);
        due.is("place 40, wrong", b.place(0, 1000), -2);
        due.is("count(1)", b.count(1), 40);
    }

    private static void part() {
        due.part("6 part");
        NameBoard b = places(4);
        due.is("part(0, 0)", b.part(0, 0), -2);
        due.is("part(4, 0)", b.part(4, 0), -2);
        due.is("part(0, 4)", b.part(0, 4), -2);
        due.is("part(-1, 0)", b.part(-1, 0), -2);
        due.is("part(0, -2)", b.part(0, -2), -2);
        due.is("part(1, 0)", b.part(1, 0), 0);
        due.is("part(2, 1)", b.part(2, 1), 0);
        due.is("part(0, 1)", b.part(0, 1), -5);
        due.is("part(0, 2)", b.part(0, 2), -5);
        due.is("part(0, 3)", b.part(0, 3), 0);
        due.is("part(3, 2)", b.part(3, 2), -5);
        b.people(2, 0, 7);
        due.is("live(3)", b.live(3, 0, 0, 0), 7);
        b.next(10);
        due.is("part(1, NONE)", b.part(1, NONE), 0);
        due.is("live(3) now", b.live(3, 0, 10, 10), 0);
        due.is("live(3) then", b.live(3, 0, 9, 10), 7);
        due.is("live(3) now, as known then", b.live(3, 0, 10, 9), 7);
        due.is("part(0, 2), now that it may", b.part(0, 2), 0);
        due.is("part(0, 3), told anew in one YEAR", b.part(0, 3), 0);
        due.is("live(2)", b.live(2, 0, 10, 10), 7);
        due.is("live(3)", b.live(3, NONE, 10, 10), 0);
        due.is("part(3, 1)", b.part(3, 1), 0);
        due.is("live(1)", b.live(1, NONE, 10, 10), 7);
        NameBoard chain = places(40);
        for (int i = 1; i < 40; i++) {
            due.is("chain", chain.part(i, i - 1), 0);
            chain.people(i, 0, 1);
        }
        due.is("39 parts, one in the other", chain.live(0, 0, 0, 0), 39);
        due.is("the last of them", chain.part(0, 39), -5);
    }

    private static void people() {
        due.part("7 people");
        NameBoard b = places(40);
        due.is("people(40, 0, 1)", b.people(40, 0, 1), -2);
        due.is("people(-1, 0, 1)", b.people(-1, 0, 1), -2);
        due.is("people(0, 3, 1)", b.people(0, 3, 1), -2);
        due.is("people(0, NONE, 1)", b.people(0, NONE, 1), -2);
        due.is("people(0, 0, -1)", b.people(0, 0, -1), -2);
        due.is("people(0, 0, 2001)", b.people(0, 0, 2001), -2);
        due.is("people(0, 0, 2000)", b.people(0, 0, 2000), 0);
        due.is("people(0, 0, 3)", b.people(0, 0, 3), 0);
        due.is("in place of it", b.count(6), 1);
        due.is("live(0)", b.live(0, 0, 0, 0), 3);
        for (int i = 1; i < 200; i++) {
            if (i % 120 == 0) {
                b.next(1);
            }
            due.is("people " + i, b.people(i % 120 / 3, i % 3, i), 0);
        }
        due.is("count(6)", b.count(6), 200);
        due.is("one more", b.people(39, 2, 1), -3);
        due.is("one more that is wrong", b.people(39, 2, 2001), -2);
        due.is("one in place of what was counted NOW", b.people(0, 0, 9), 0);
        due.is("count(6)", b.count(6), 200);
        due.is("live(0)", b.live(0, 0, 1, 1), 9);
        due.is("live(0) then", b.live(0, 0, 0, 1), 3);
    }

    private static void counted() {
        due.part("8 counted");
        NameBoard b = places(2);
        due.is("counted(-1)", b.counted(-1), -2);
        due.is("counted(4)", b.counted(4), -2);
        due.is("counted(0)", b.counted(0), -6);
        fill(b, 0, 3, new long[] {0, 0, 10, 1, 1, 2000, 0, 2, 30, 1, 2});
        due.is("counted(0), two numbers left over", b.counted(0), 3);
        due.is("count(6)", b.count(6), 3);
        due.is("live(1, 1)", b.live(1, 1, 0, 0), 2000);
        fill(b, 1, 3, new long[] {0, 0, 11, 1, 1, 2001, 0, 2, 31});
        due.is("up to one refused", b.counted(1), 1);
        due.is("live(0, 0)", b.live(0, 0, 0, 0), 11);
        due.is("live(0, 2)", b.live(0, 2, 0, 0), 30);
        fill(b, 2, 3, new long[] {1L << 32, 0, 1});
        due.is("a great number is no PLACE", b.counted(2), 0);
        fill(b, 2, 3, new long[] {0, 1L << 32, 1});
        due.is("a great number is no TONGUE", b.counted(2), 0);
        fill(b, 2, 3, new long[] {0, 0, (1L << 32) + 5});
        due.is("a great number of people", b.counted(2), 0);
        fill(b, 2, 0, new long[] {0, 0, 127, 1, 0, 128});
        due.is("one byte has 127 at most", b.counted(2), 1);
        b.row(3, 0, 0);
        due.is("an empty row", b.counted(3), 0);
    }

    private static void live() {
        due.part("9 live");
        NameBoard b = places(3);
        b.part(1, 0);
        b.part(2, 1);
        b.people(0, 0, 1);
        b.people(1, 1, 20);
        b.people(2, 2, 300);
        due.is("live(0, NONE)", b.live(0, NONE, 0, 0), 321);
        due.is("live(0, 2)", b.live(0, 2, 0, 0), 300);
        due.is("live(1, NONE)", b.live(1, NONE, 0, 0), 320);
        due.is("live(2, 0)", b.live(2, 0, 0, 0), 0);
        due.is("in a YEAR to come", b.live(0, NONE, 399, 399), 321);
        b.next(7);
        b.people(2, 2, 400);
        b.next(1);
        b.people(2, 2, 500);
        due.is("in 6", b.live(1, 2, 6, 8), 300);
        due.is("in 7", b.live(1, 2, 7, 8), 400);
        due.is("in 8", b.live(1, 2, 8, 8), 500);
        due.is("in 8 as known in 7", b.live(1, 2, 8, 7), 400);
        due.is("in 399 as known in 0", b.live(1, 2, 399, 0), 300);
        due.is("live(3, ..)", b.live(3, 0, 0, 0), -2);
        due.is("live(-1, ..)", b.live(-1, 0, 0, 0), -2);
        due.is("tongue -2", b.live(0, -2, 0, 0), -2);
        due.is("tongue 3", b.live(0, 3, 0, 0), -2);
        due.is("year 400", b.live(0, 0, 400, 0), -2);
        due.is("year -1", b.live(0, 0, -1, 0), -2);
        due.is("known 400", b.live(0, 0, 0, 400), -2);
        due.is("known -1", b.live(0, 0, 0, -1), -2);
    }

    private static NameBoard places(int n) {
        NameBoard b = new NameBoard();
        for (int i = 0; i < n; i++) {
            b.place(i, i);
        }
        return b;
    }

    private static void fill(NameBoard b, int slot, int width, long[] numbers) {
        b.row(slot, width, numbers.length);
        for (int i = 0; i < numbers.length; i++) {
            b.write(slot, i, numbers[i]);
        }
    }
}
