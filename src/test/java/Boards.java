import java.util.function.Supplier;

/** Boards on which the tests of edges make their calls. */
final class Boards {
    private static final int NONE = NameBoard.NONE;

    /** Something of all there is; NOW is 12, the TAPE has "tape", SLOTS 2 and 3 and IMAGES 1 and 2 have nothing. */
    static final Supplier<NameBoard> FULL = Boards::full;
    /** As many as there may be of each. */
    static final Supplier<NameBoard> PLACES = () -> places(40);
    static final Supplier<NameBoard> COUNTS = () -> counts(200);
    static final Supplier<NameBoard> NAMES = () -> names(80);
    static final Supplier<NameBoard> SPELLINGS = () -> spellings(12);
    static final Supplier<NameBoard> ACTS = () -> acts(8);
    static final Supplier<NameBoard> HEARINGS = () -> hearings(60);
    static final Supplier<NameBoard> SIGNS = () -> signs(40);
    static final Supplier<NameBoard> WRITTEN = () -> written(7);

    private Boards() {
    }

    private static NameBoard full() {
        return fillFull(new NameBoard());
    }

    /** Makes a board on which nothing is told or done like all others that have all. */
    static NameBoard fillFull(NameBoard b) {
        b.place(0, 0);
        b.place(3, 4);
        b.place(100, 0);
        b.place(999, 999);
        b.part(1, 0);
        b.people(0, 0, 30);
        b.people(0, 1, 20);
        b.people(1, 1, 5);
        b.people(2, 2, 7);
        Due.spelling(b, 0, "a>e;b>-before#;");
        Due.act(b, "both if not share 2>90 and people>0 and year<300; votes 60; far 5 apart 1; dead 3; sign 4;");
        Due.name(b, "abab", 0, 0);
        Due.name(b, "bcb", 0, 1);
        Due.name(b, "cacc", 1, 1);
        Due.name(b, "dad", 2, 2);
        Due.tape(b, "dada").name(2, 2, 0);
        Due.tape(b, "lea").name(3, 0, -9);
        for (int name = 0; name < 4; name++) {
            Due.settle(b, name);
        }
        b.sign(0, 7);
        b.sign(2, 9);
        b.next(5);
        b.people(0, 1, 60);
        Due.spelling(b, 2, "d>t;");
        Due.settle(b, 4);
        b.undo(2, 2);
        b.sign(2, 3);
        b.keep(0);
        b.next(7);
        b.people(1, 1, 6);
        b.sign(3, 2);
        // One vote more for the one, or against the other, and it is closed otherwise.
        votes(b, b.ask(0), true, false);
        votes(b, b.ask(4), true, true, false);
        b.paper(3);
        Due.tape(b, "ebe").written();
        Due.tape(b, "caca").written();
        b.join();
        b.plan(20);
        b.row(0, 1, 6);
        b.row(1, 2, 3);
        for (int i = 0; i < 6; i++) {
            b.write(0, i, i / 3 + i % 3);
            b.write(1, i, 7 * i + 1);
        }
        b.shown(0, 12, 12);
        Due.act(b, "first 7;");
        return Due.tape(b, "tape");
    }

    /** Tells otherwise all that the board that has all is told, in as many rows of each sort and more. */
    static void fillOtherwise(NameBoard b) {
        for (int i = 0; i < 6; i++) {
            b.place(700 - 9 * i, 50 + i);
        }
        Due.spelling(b, 2, "dcb>x;");
        Due.spelling(b, 1, "after # cb>xyz before a;ba>uvw before bcd;after abc d>-;b>q;c>rs;");
        b.next(1);
        Due.spelling(b, 0, "c>cc;");
        Due.act(b, "first 2 if share 1>7 and not parts>5 and not people<1 and not year=3; both if not people=4; far 900 apart 7; dead 50;"
                + "votes 7; sign 77; both; first 1;");
        Due.act(b, "both if year<300 and not year=100; sign 1; far 1 apart 0;");
        b.next(1);
        for (int i = 0; i < 9; i++) {
            b.people(5 - i % 6, (i + 1) % 3, 100 + i);
            b.part(4 - i % 5, 5 - i % 5);
            Due.tape(b, "dcbadcbaabcd".substring(i)).name(5 - i % 6, (i + 2) % 3, i % 2 == 0 ? 1 : -9);
        }
        for (int i = 0; i < 9; i++) {
            Due.settle(b, 8 - i);
            b.sign(i % 6, 50 + i);
            b.undo(i % 6, i % 3);
            b.next(1);
        }
        for (int i = 0; i < 4; i++) {
            votes(b, b.ask(i), false, false, false, true, true);
        }
    }

    private static void votes(NameBoard b, int hearing, boolean... votes) {
        for (int member = 0; member < votes.length; member++) {
            b.vote(hearing, member, votes[member]);
        }
    }

    /** PLACES one mile apart. */
    static NameBoard places(int n) {
        NameBoard b = new NameBoard();
        for (int i = 0; i < n; i++) {
            b.place(i, 0);
        }
        return b;
    }

    /** 40 PLACES, and so many COUNTS (121 at least), the last 80 at most of them in YEAR 1. */
    static NameBoard counts(int n) {
        NameBoard b = places(40);
        for (int i = 0; i < n; i++) {
            b.next(i == 120 ? 1 : 0);
            b.people(i % 120 / 3, i % 3, i);
        }
        return b;
    }

    static NameBoard names(int n) {
        NameBoard b = places(2);
        for (int i = 0; i < n; i++) {
            Due.name(b, "ab", i % 2, i % 3);
        }
        return Due.tape(b, "tape");
    }

    static NameBoard spellings(int n) {
        NameBoard b = names(1);
        for (int i = 0; i < n; i++) {
            Due.spelling(b, 0, "a>o;b>" + (char) ('a' + i) + ";");
        }
        return Due.tape(b, "a>b;");
    }

    static NameBoard acts(int n) {
        NameBoard b = names(1);
        for (int i = 0; i < n; i++) {
            Due.act(b, "first " + i % 3 + ";");
        }
        return Due.tape(b, "first 2;");
    }

    /** So many HEARINGS about PLACE 0, all closed. */
    static NameBoard hearings(int n) {
        NameBoard b = names(4);
        for (int i = 0; i < n; i++) {
            b.close(b.ask(0));
        }
        return b;
    }

    static NameBoard signs(int n) {
        NameBoard b = names(1);
        for (int i = 0; i < n; i++) {
            b.sign(i % 2, i);
        }
        return b;
    }

    static NameBoard written(int n) {
        NameBoard b = places(8);
        for (int i = 0; i < 8; i++) {
            Due.name(b, "ab", i, 0);
        }
        b.paper(0);
        for (int i = 0; i < n; i++) {
            Due.tape(b, "abc").written();
        }
        return Due.tape(b, "tape");
    }

    /** So many LAME SIGNS, each of a COST. */
    static NameBoard lame(int... costs) {
        NameBoard b = places(1);
        Due.name(b, "old", 0, 0);
        Due.settle(b, 0);
        for (int cost : costs) {
            b.sign(0, cost);
        }
        b.next(1);
        b.undo(0, 0);
        return b;
    }

    static void fill(NameBoard b, int slot, int width, long... numbers) {
        b.row(slot, width, numbers.length);
        for (int i = 0; i < numbers.length; i++) {
            b.write(slot, i, numbers[i]);
        }
    }

    static int lives(NameBoard b, int place, int tongue) {
        return b.live(place, tongue, b.count(0), b.count(0));
    }

    static int settledNow(NameBoard b, int place, int tongue) {
        return b.settled(place, tongue, b.count(0), b.count(0));
    }

    static String spelled(NameBoard b, int name, int year) {
        b.spell(name, year);
        return Due.inHand(b);
    }

    static String shown(NameBoard b, int place, int year, int known) {
        b.shown(place, year, known);
        return Due.inHand(b);
    }

    /** How a SOUND of TONGUE 0 is SPELLED by a text of RULES. */
    static String writes(String rules, String sound) {
        NameBoard b = places(1);
        Due.spelling(b, 0, rules);
        return spelled(b, Due.tape(b, sound).name(0, 0, NONE), 0);
    }
}
