/** Edges of term I and of promises 1 to 9: a new object, the TAPE, the YEAR, PLACES and who lives there. */
final class EdgesOfLand {
    private static final int NONE = NameBoard.NONE;
    private static final int MIN = Integer.MIN_VALUE;
    private static final int MAX = Integer.MAX_VALUE;

    private final Edge edge;

    EdgesOfLand(Edge e) {
        edge = e;
    }

    void run() {
        use();
        years();
        places();
        people();
        rows();
        newObject();
        feed();
        end();
        next();
        place();
        part();
        peopleCounted();
        counted();
        live();
    }

    private void use() {
        edge.sentence("use", "An object is used for at most 512 calls after it has been made; what later calls answer is free.");
        NameBoard b = Boards.places(40);
        b.people(39, 0, 1);
        int calls = 41;
        int year = 0;
        for (int place = 0; calls < 512; calls++) {
            // As many tellings as there can be: 38 in a YEAR, and one call for the next one.
            if (place < 38) {
                place++;
                edge.is("call " + calls, b.part(place, year % 2 == 0 ? 0 : NONE), 0);
            } else {
                place = 0;
                year++;
                edge.is("call " + calls, b.next(1), year);
            }
        }
        NameBoard last = Boards.places(40);
        last.people(39, 0, 1);
        for (calls = 41; calls < 511; calls++) {
            last.part(39, calls % 2 == 0 ? 0 : NONE);
        }
        edge.is("the 512th call", last.live(0, 0, 0, 0), 1);
        edge.is("YEARS", year, 12);
        b.people(1, 0, 7);
        edge.is("what was told in the last one", b.live(0, 0, 12, 12), 7);
        edge.is("in the one ahead of it", b.first(1, 11, 11), 0);
    }

    private void years() {
        edge.sentence("I", "YEARS 0 .. 399, NOW (0 at first) is one.");
        edge.is("NOW at first", new NameBoard().count(0), 0);
        edge.is("the last one", new NameBoard().next(399), 399);
        edge.is("the first that is none", new NameBoard().next(400), NONE);
        for (int year : new int[] {0, 399}) {
            edge.told("first in", (b, v) -> b.first(0, v, v), year);
            edge.told("spell in", (b, v) -> b.spell(0, v), year);
            edge.told("alikes in", (b, v) -> b.alikes(v), year);
        }

        edge.sentence("I", "All is told NOW; as known in a YEAR is what was told in YEARS up to it.");
        NameBoard b = Boards.places(2);
        Due.name(b, "aa", 0, 1);
        b.next(10);
        b.part(1, 0);
        b.people(1, 1, 5);
        Due.spelling(b, 1, "a>o;");
        Due.settle(b, 0);
        Due.act(b, "first 1;");
        String[] told = {"0 0 -1 ", "5 1 0 oo"};
        for (int known = 9; known <= 10; known++) {
            edge.is("in 399 as known in " + known, asKnown(b, 399, known), told[known - 9]);
            edge.is("in " + known + " as known in 399", asKnown(b, known, 399), told[known - 9]);
        }
    }

    private static String asKnown(NameBoard b, int year, int known) {
        return b.live(0, 1, year, known) + " " + b.first(0, year, known) + " " + b.settled(0, 1, year, known) + " "
                + Boards.shown(b, 0, year, known);
    }

    private void places() {
        edge.sentence("I", "PLACES 0 .., at most 40, at x, y (0 .. 999 miles);");
        NameBoard b = new NameBoard();
        edge.is("the first", b.place(0, 999), 0);
        edge.is("the 40th", Boards.places(39).place(999, 0), 39);
        edge.is("a 41st", Boards.places(40).place(999, 0), -3);
        edge.is("PLACE 39 of 40", Boards.places(40).live(39, 0, 0, 0), 0);
        edge.is("PLACE 40 of 40", Boards.places(40).live(40, 0, 0, 0), -2);
        edge.is("a PLACE of none", new NameBoard().live(0, 0, 0, 0), -2);

        edge.sentence("I", "each is PART of another one or of none, by what was told last up to a YEAR (as known then; none at first).");
        b = Boards.places(4);
        b.people(1, 0, 1);
        edge.is("none at first", whose(b, 0, 0), "-");
        b.next(2);
        b.part(1, 0);
        b.part(1, 2);
        b.next(2);
        b.part(1, NONE);
        b.next(2);
        b.part(1, 3);
        String[] whose = {"-", "-", "2", "2", "-", "-", "3", "3"};
        for (int year = 0; year < whose.length; year++) {
            edge.is("in " + year, whose(b, year, 399), whose[year]);
            edge.is("as known in " + year, whose(b, 399, year), whose[year]);
        }
        for (int year = whose.length - 1; year >= 0; year--) {
            edge.is("asked behind a later YEAR, in " + year, whose(b, year, 399), whose[year]);
        }

        edge.sentence("I", "TONGUES 0 .. 2.");
        edge.told("live of", (x, v) -> x.live(0, v, 0, 0), 0, 1, 2);
        edge.refused("live of", -2, (x, v) -> x.live(0, v, 0, 0), MIN, -2, 3, MAX);
        edge.refusedBeside("settled of", 0, 2, -2, (x, v) -> x.settled(0, v, 0, 0));
    }

    /** Of which PLACE the one person of PLACE 1 is, beside that. */
    private static String whose(NameBoard b, int year, int known) {
        String whose = "";
        for (int place = 0; place < b.count(1); place++) {
            whose += place != 1 && b.live(place, 0, year, known) == 1 ? place : "";
        }
        return whose.isEmpty() ? "-" : whose;
    }

    private void people() {
        edge.sentence("I", "COUNTS: people of a TONGUE in a PLACE by the COUNT of the latest YEAR up to the one asked, "
                + "of those known (0 without);");
        NameBoard b = Boards.places(1);
        edge.is("without", b.live(0, 0, 399, 399), 0);
        b.next(3);
        b.people(0, 0, 30);
        b.next(3);
        b.people(0, 0, 0);
        b.next(1);
        b.people(0, 0, 70);
        int[] due = {0, 0, 0, 30, 30, 30, 0, 70, 70};
        for (int year = 0; year < due.length; year++) {
            edge.is("in " + year, b.live(0, 0, year, 399), due[year]);
            edge.is("as known in " + year, b.live(0, 0, 399, year), due[year]);
        }
        for (int year = due.length - 1; year >= 0; year--) {
            edge.is("asked behind a later YEAR, in " + year, b.live(0, 0, year, 399), due[year]);
        }
        edge.is("of another TONGUE", b.live(0, 1, 399, 399), 0);

        edge.sentence("I", "a PLACE's people are its own and those of all its parts (parts of parts, too; in that YEAR, as known).");
        b = Boards.places(40);
        b.people(0, 0, 2000);
        for (int place = 1; place < 40; place++) {
            b.people(place, 0, 2000);
            b.next(1);
            b.part(place, place - 1);
        }
        edge.is("39 parts, one in the other", b.live(0, 0, 39, 39), 80000);
        edge.is("a YEAR ahead", b.live(0, 0, 38, 39), 78000);
        edge.is("as known a YEAR ahead", b.live(0, 0, 39, 38), 78000);
        edge.is("the last one", b.live(39, 0, 39, 39), 2000);
        edge.is("ahead of all", b.live(0, 0, 0, 0), 2000);
    }

    private void rows() {
        edge.sentence("I", "NAMES 0 .., at most 80, of a PLACE, in a TONGUE: a SOUND, a row of 1 to 12 letters a .. z.");
        edge.is("the first", Due.name(Boards.names(0), "q", 0, 0), 0);
        edge.is("the 80th", Due.name(Boards.names(79), "q", 0, 0), 79);
        edge.is("an 81st", Due.name(Boards.names(80), "q", 0, 0), -3);
        edge.is("none", Due.name(Boards.names(0), "", 0, 0), -2);
        edge.is("1 letter", Due.name(Boards.names(0), "a", 0, 0), 0);
        edge.is("12 letters", Due.name(Boards.names(0), "zzzzzzzzzzzz", 0, 0), 0);
        edge.is("13 letters", Due.name(Boards.names(0), "zzzzzzzzzzzzz", 0, 0), -2);
        for (int sign = 0; sign < 256; sign++) {
            boolean is = sign >= 'a' && sign <= 'z';
            edge.is("the byte " + sign, Due.name(Boards.names(0), "a" + (char) sign, 0, 0), is ? 0 : -2);
        }

        edge.sentence("I", "SLOTS 0 .. 3 have rows of numbers of 1, 2, 4 or 8 bytes (WIDTH 0 .. 3), at most 60, or nothing.");
        NameBoard b = Boards.places(1);
        for (int slot = 0; slot < 4; slot++) {
            edge.is("SLOT " + slot + " has nothing", b.write(slot, 0, 0), -6);
            edge.is("a row of none", b.row(slot, slot, 0), 0);
            edge.is("is a row", b.write(slot, 0, 0), -7);
            edge.is("a row of 60", b.row(slot, slot, 60), 0);
            edge.is("its last number", b.write(slot, 59, 1), 0);
            edge.is("behind its last number", b.write(slot, 60, 1), -7);
            edge.is("a row of 61", b.row(slot, slot, 61), -2);
        }
        long[] greatest = {127, 32767, Integer.MAX_VALUE, Long.MAX_VALUE};
        for (int width = 0; width < 4; width++) {
            edge.is("bytes of WIDTH " + width, bytes(width), 1 << width);
            edge.is("the greatest of WIDTH " + width, comes(width, greatest[width]), width == 0 ? 127 : NONE);
            edge.is("one more", comes(width, greatest[width] + 1), NONE);
        }
    }

    /** How many bytes a number has: the highest bit that is cut off leaves 5 of 5 and it. */
    private static int bytes(int width) {
        for (int bytes = 1; bytes < 8; bytes++) {
            if (comes(width, 5 + (1L << 8 * bytes)) == 5) {
                return bytes;
            }
        }
        return 8;
    }

    /** The people that come of a number of a row; NONE if none come. */
    private static int comes(int width, long number) {
        NameBoard b = Boards.places(1);
        Boards.fill(b, 0, width, 0, 0, number);
        return b.counted(0) == 1 ? b.live(0, 0, 0, 0) : NONE;
    }

    private void newObject() {
        edge.sentence("1", "YEAR 0; no PLACES, NAMES, SPELLINGS, ACTS; the TAPE is empty, the LINES of SLOTS have nothing.");
        NameBoard b = new NameBoard();
        String[] counts = {"YEAR", "PLACES", "NAMES", "SPELLINGS", "ACTS", "HEARINGS", "COUNTS", "SIGNS", "LAME ones",
            "bytes of the TAPE", "WRITTEN names", "NAMES SETTLED", "SLOTS that have a row"};
        for (int what = 0; what < counts.length; what++) {
            edge.is(counts[what], b.count(what), 0);
        }
        for (int slot = 0; slot < 4; slot++) {
            edge.is("SLOT " + slot, b.counted(slot), -6);
        }
        edge.is("another object stays new", Edge.difference(Picture.of(new NameBoard()), newBeside(Boards.FULL.get())), "");
    }

    private static String newBeside(NameBoard full) {
        NameBoard b = new NameBoard();
        full.next(1);
        return Picture.of(b);
    }

    private void feed() {
        edge.sentence("2", "Twenty bytes come behind the TAPE, four of each number, the highest first: how many it has;");
        NameBoard b = Boards.places(1);
        edge.is("the first twenty", b.feed(0x61626364, 0x65666768, 0x696a6b6c, 0x6d6e6f70, 0x71727374), 20);
        b.end(11);
        edge.is("behind 11", b.feed(0x7a202020, -1, MIN, MAX, 0), 31);
        b.end(12);
        edge.is("as a SOUND", Boards.spelled(b, b.name(0, 0, NONE), 0), "abcdefghijkz");
        Due.tape(b, "abcdefghijklmnopqrst");
        b.paper(0);
        edge.is("all of the five numbers are letters", b.written(), 1);
        Due.tape(b, "");
        b.feed(0, 0, 0, 0, 0x6162637a);
        b.end(19);
        edge.is("the highest bytes first: no letter is ahead", b.name(0, 0, NONE), -2);

        edge.sentence("2", "NONE, and none come, if it would have more than 500.");
        edge.is("behind 480", tapeOf(480).feed(1, 2, 3, 4, 5), 500);
        edge.is("behind 481", tapeOf(481).feed(1, 2, 3, 4, 5), NONE);
        edge.is("behind 500", tapeOf(500).feed(1, 2, 3, 4, 5), NONE);
        for (int size : new int[] {481, 499, 500}) {
            b = tapeOf(size);
            b.feed(1, 2, 3, 4, 5);
            edge.is("bytes", b.count(9), size);
            edge.is("its last byte is what it was", b.act(), 1);
        }
        edge.on(() -> tapeOf(481));
        edge.refused("feed", NONE, x -> x.feed(0x61616161, 0, 0, 0, 0));
    }

    /** A TAPE of so many bytes, an ACT of one LINE that ends with the last of them. */
    private static NameBoard tapeOf(int size) {
        return Due.tape(Boards.places(1), " ".repeat(size - 7) + "dead 7;");
    }

    private void end() {
        edge.sentence("3", "The TAPE has its first n bytes alone: n;");
        NameBoard b = Due.tape(Boards.places(1), "abcdef");
        edge.is("all", b.end(6), 6);
        edge.is("three", b.end(3), 3);
        edge.is("as a SOUND", Boards.spelled(b, b.name(0, 0, NONE), 0), "abc");
        Due.tape(b, "abcdef");
        edge.is("none", b.end(0), 0);
        edge.is("it is empty", b.count(9), 0);
        edge.is("none of none", b.end(0), 0);
        edge.is("all of 500", tapeOf(500).end(500), 500);

        edge.sentence("3", "NONE, and nothing happens, if it has not so many, or n is below 0.");
        edge.refusedBeside("end of 4 bytes at", 0, 4, NONE, (x, v) -> x.end(v));
        edge.is("of none", new NameBoard().end(1), NONE);
        edge.is("of 500", tapeOf(500).end(501), NONE);
        b = Due.tape(new NameBoard(), "abcdef");
        b.end(3);
        edge.is("bytes that were taken away", b.end(4), NONE);
    }

    private void next() {
        edge.sentence("4", "NOW is so many YEARS later (0 .. 399): NOW.");
        NameBoard b = new NameBoard();
        edge.is("0", b.next(0), 0);
        edge.is("1", b.next(1), 1);
        edge.is("398", b.next(398), 399);
        edge.is("0", b.next(0), 399);
        edge.is("NOW", b.count(0), 399);
        edge.is("399", new NameBoard().next(399), 399);

        edge.sentence("4", "NONE, and nothing happens: another number, beyond 399.");
        edge.refusedBeside("next", 0, 387, NONE, (x, v) -> x.next(v));
        edge.refused("next", NONE, (x, v) -> x.next(v), 399, 400, MAX - 11, MAX - 12);
        edge.is("400 of a new one", new NameBoard().next(400), NONE);
        edge.taken("next", (x, v) -> x.next(v), 1, 387);
    }

    private void place() {
        edge.sentence("5", "A PLACE: its number.");
        NameBoard b = new NameBoard();
        for (int place = 0; place < 40; place++) {
            edge.is("PLACE " + place, b.place(0, 0), place);
        }

        edge.sentence("5", "-2: x, y are not 0 .. 999;");
        edge.taken("x", (x, v) -> x.place(v, 5), 0, 999);
        edge.taken("y", (x, v) -> x.place(5, v), 0, 999);
        edge.refusedBeside("x", 0, 999, -2, (x, v) -> x.place(v, 5));
        edge.refusedBeside("y", 0, 999, -2, (x, v) -> x.place(5, v));

        edge.sentence("5", "-3: there are 40.");
        edge.is("the 40th", Boards.places(39).place(0, 0), 39);
        edge.on(Boards.PLACES);
        edge.refused("a 41st", -3, x -> x.place(7, 7));
        edge.refused("a 41st that is wrong", -2, x -> x.place(7, 1000));
    }

    private void part() {
        edge.sentence("6", "A PLACE is PART of another one (NONE: of none any more), from NOW on: 0.");
        NameBoard b = Boards.places(3);
        b.people(1, 0, 1);
        edge.is("of none, when it was of none", b.part(1, NONE), 0);
        b.next(5);
        edge.is("of another one", b.part(1, 0), 0);
        edge.is("not ahead of NOW", whose(b, 4, 5), "-");
        edge.is("from NOW on", whose(b, 5, 5), "0");
        edge.is("the same once more", b.part(1, 0), 0);
        edge.is("of a third one", b.part(1, 2), 0);
        edge.is("of that one alone", whose(b, 5, 5), "2");
        edge.is("of none any more", b.part(1, NONE), 0);
        edge.is("of none", whose(b, 5, 5), "-");
        edge.taken("of", (x, v) -> x.part(2, v), 0, 3);

        edge.sentence("6", "-2: there are none such, they are one;");
        edge.refusedBeside("place", 0, 3, -2, (x, v) -> x.part(v, 0));
        edge.refused("of", -2, (x, v) -> x.part(2, v), MIN, -2, 4, MAX);
        edge.refused("they are one", -2, (x, v) -> x.part(v, v), 0, 1, 2, 3);
        edge.refused("both are NONE", -2, x -> x.part(NONE, NONE));

        edge.sentence("6", "-5: it would be part of itself by others in between.");
        edge.refused("by one", -5, x -> x.part(0, 1));
        for (int between = 1; between < 40; between++) {
            NameBoard chain = Boards.places(40);
            for (int place = 1; place <= between; place++) {
                chain.part(place, place - 1);
            }
            edge.is("by " + between, chain.part(0, between), -5);
            edge.is("of one that is not in between", chain.part(0, 39), between < 39 ? 0 : -5);
        }
        b = Boards.places(3);
        b.part(1, 0);
        b.next(1);
        edge.is("it was so, and is so", b.part(0, 1), -5);
        b.part(1, NONE);
        edge.is("it was so, and is not", b.part(0, 1), 0);
        edge.is("in its YEAR", b.part(1, 0), -5);
    }

    private void peopleCounted() {
        edge.sentence("7", "So many people (0 .. 2000) of a TONGUE live in a PLACE, counted NOW, in place of what was counted NOW: 0.");
        NameBoard b = Boards.places(1);
        edge.is("0", b.people(0, 0, 0), 0);
        edge.is("a COUNT of 0 is kept", b.count(6), 1);
        edge.is("2000", b.people(0, 0, 2000), 0);
        edge.is("in place of it", b.count(6), 1);
        edge.is("people", b.live(0, 0, 0, 0), 2000);
        edge.is("of another TONGUE", b.people(0, 2, 5), 0);
        edge.is("is another one", b.count(6), 2);
        b.next(1);
        edge.is("in another YEAR", b.people(0, 0, 1), 0);
        edge.is("is another one", b.count(6), 3);
        edge.is("people then", b.live(0, 0, 0, 1), 2000);

        edge.sentence("7", "-2: there is none such, another number;");
        edge.taken("place", (x, v) -> x.people(v, 0, 9), 0, 3);
        edge.taken("tongue", (x, v) -> x.people(0, v, 9), 0, 2);
        edge.taken("people", (x, v) -> x.people(0, 1, v), 0, 2000);
        edge.refusedBeside("place", 0, 3, -2, (x, v) -> x.people(v, 0, 9));
        edge.refusedBeside("tongue", 0, 2, -2, (x, v) -> x.people(0, v, 9));
        edge.refusedBeside("people", 0, 2000, -2, (x, v) -> x.people(0, 1, v));

        edge.sentence("7", "-3: 200 are kept.");
        edge.is("the 200th", Boards.counts(199).people(30, 0, 9), 0);
        edge.on(Boards.COUNTS);
        edge.refused("a 201st", -3, x -> x.people(30, 0, 9));
        edge.refused("a 201st that is wrong", -2, x -> x.people(30, 3, 9));
        edge.taken("in place of one counted NOW, place", (x, v) -> x.people(v, 0, 9), 0, 26);
        b = Boards.counts(200);
        b.people(0, 0, 9);
        edge.is("kept", b.count(6), 200);
    }

    private void counted() {
        edge.sentence("8", "COUNTS come from the row of a SLOT: three numbers each, as people() has them, one behind the other,");
        NameBoard b = Boards.places(20);
        b.row(3, 1, 60);
        for (int i = 0; i < 60; i++) {
            b.write(3, i, i % 3 == 0 ? i / 3 : i % 3 == 1 ? i / 3 % 3 : 1000 + i);
        }
        edge.is("20 of 60 numbers", b.counted(3), 20);
        edge.is("kept", b.count(6), 20);
        edge.is("the first", Boards.lives(b, 0, 0), 1002);
        edge.is("the last", Boards.lives(b, 19, 1), 1059);
        Boards.fill(b, 0, 3, 0, 0, 7, 0, 0, 8);
        edge.is("the second in place of the first", b.counted(0), 2);
        edge.is("people", Boards.lives(b, 0, 0), 8);
        edge.is("kept", b.count(6), 20);
        edge.is("the row stays", b.counted(0), 2);

        edge.sentence("8", "up to the first one that would be refused, or is not whole: how many came.");
        for (int n = 0; n <= 7; n++) {
            b = Boards.places(1);
            b.row(0, 0, n);
            edge.is(n + " numbers", b.counted(0), n / 3);
            edge.is(n + " numbers, kept", b.count(6), Math.min(1, n / 3));
        }
        long[][] wrong = {{-1, 0, 1}, {2, 0, 1}, {0, -1, 1}, {0, 3, 1}, {0, 0, -1}, {0, 0, 2001}, {1L << 32, 0, 1},
            {0, 1L << 32, 1}, {0, 0, 1L << 32}, {Long.MIN_VALUE, 0, 1}, {0, Long.MAX_VALUE, 1}, {0, 0, Long.MIN_VALUE}};
        for (long[] w : wrong) {
            b = Boards.places(2);
            Boards.fill(b, 0, 3, 0, 1, 2000, w[0], w[1], w[2], 1, 2, 0);
            String what = w[0] + ", " + w[1] + ", " + w[2];
            edge.is("ahead of " + what, b.counted(0), 1);
            edge.is("the one ahead stays, the one behind does not come", b.count(6), 1);
            edge.is("people", b.live(0, 1, 0, 0), 2000);
        }
        b = Boards.counts(198);
        Boards.fill(b, 0, 3, 30, 0, 1, 0, 0, 77, 30, 1, 2, 1, 0, 78, 30, 2, 3, 2, 0, 79);
        edge.is("up to the one that would be a 201st", b.counted(0), 4);
        edge.is("kept", b.count(6), 200);
        edge.is("the last that came", Boards.lives(b, 1, 0), 78);
        edge.is("none behind it", Boards.lives(b, 2, 0), 126);

        edge.sentence("8", "-2: there is no such SLOT;");
        edge.refusedBeside("slot", 0, 3, -2, (x, v) -> x.counted(v));

        edge.sentence("8", "-6: it has nothing.");
        edge.refused("slot", -6, (x, v) -> x.counted(v), 2, 3);
        edge.is("a row of none is not nothing", emptyRow().counted(2), 0);
        b = emptyRow();
        b.tear(2);
        edge.is("torn", b.counted(2), -6);
    }

    private static NameBoard emptyRow() {
        NameBoard b = new NameBoard();
        b.row(2, 0, 0);
        return b;
    }

    private void live() {
        edge.sentence("9", "People of a TONGUE (NONE: of all) in a PLACE and all its parts in a YEAR as known in a YEAR (I).");
        NameBoard b = Boards.FULL.get();
        edge.is("of all", b.live(0, NONE, 12, 12), 96);
        edge.is("of 0", b.live(0, 0, 12, 12), 30);
        edge.is("of 1", b.live(0, 1, 12, 12), 66);
        edge.is("of 2", b.live(0, 2, 12, 12), 0);
        edge.is("in 4", b.live(0, NONE, 4, 399), 55);
        edge.is("in 5 as known in 4", b.live(0, NONE, 5, 4), 55);
        edge.is("in 5 as known in 5", b.live(0, NONE, 5, 5), 95);
        edge.is("in 399 as known in 0", b.live(0, NONE, 399, 0), 55);
        edge.is("in 0 as known in 399", b.live(0, NONE, 0, 399), 55);

        edge.sentence("9", "-2: there are none such.");
        edge.told("place", (x, v) -> x.live(v, 0, 0, 0), 0, 3);
        edge.told("tongue", (x, v) -> x.live(0, v, 0, 0), NONE, 0, 2);
        edge.told("year", (x, v) -> x.live(0, 0, v, 0), 0, 399);
        edge.told("known", (x, v) -> x.live(0, 0, 0, v), 0, 399);
        edge.refusedBeside("place", 0, 3, -2, (x, v) -> x.live(v, 0, 0, 0));
        edge.refusedBeside("tongue", NONE, 2, -2, (x, v) -> x.live(0, v, 0, 0));
        edge.refusedBeside("year", 0, 399, -2, (x, v) -> x.live(0, 0, v, 0));
        edge.refusedBeside("known", 0, 399, -2, (x, v) -> x.live(0, 0, 0, v));
    }
}
