import java.util.List;
import java.util.function.Consumer;

/** Edges of terms IV and V and of promises 28 to 32: SIGNS, when they are LAME, and the PLAN. */
final class EdgesOfSigns {
    private static final int NONE = NameBoard.NONE;
    private static final int MIN = Integer.MIN_VALUE;
    private static final int MAX = Integer.MAX_VALUE;

    /** Each sort of telling that changes what is SHOWN at PLACE 0. */
    private static final List<Consumer<NameBoard>> TELLINGS = List.of(
            b -> b.part(1, 0), b -> b.people(0, 1, 1), b -> countOne(b), b -> Due.act(b, "first 1;"),
            b -> Due.spelling(b, 0, "o>a;"), b -> Due.settle(b, 1), b -> b.undo(0, 0));

    private final Edge edge;

    EdgesOfSigns(Edge e) {
        edge = e;
    }

    void run() {
        shows();
        lame();
        became();
        dueAndLate();
        planYears();
        planLeast();
        sign();
        anew();
        signOf();
        plan();
        planned();
    }

    /** A PLACE with the NAMES "old" and "new" in TONGUE 0, the first SETTLED, and "ore" in TONGUE 1. */
    private static NameBoard land() {
        NameBoard b = Boards.places(1);
        Due.name(b, "old", 0, 0);
        Due.name(b, "new", 0, 0);
        Due.name(b, "ore", 0, 1);
        Due.settle(b, 0);
        return b;
    }

    private static void countOne(NameBoard b) {
        Boards.fill(b, 0, 0, 0, 1, 1);
        b.counted(0);
    }

    private void is(NameBoard b, String what, int lame, int by, int late) {
        edge.is(what + ": LAME", b.signOf(0, 0), lame);
        edge.is(what + ": by", b.signOf(0, 1), by);
        edge.is(what + ": LATE", b.signOf(0, 2), late);
        edge.is(what + ": count of LAME ones", b.count(8), lame);
    }

    private void shows() {
        edge.sentence("IV", "A SIGN shows what was SHOWN in the YEAR in which it was made (last), as known then.");
        NameBoard b = land();
        b.next(3);
        b.sign(0, 1);
        is(b, "made NOW", 0, NONE, 0);
        Due.settle(b, 1);
        is(b, "told in the YEAR in which it was made", 0, NONE, 0);
        b.next(1);
        is(b, "a YEAR later", 0, NONE, 0);
        b.undo(0, 0);
        is(b, "what is SHOWN is another one", 1, 14, 0);
        b.anew(0);
        is(b, "made anew", 0, NONE, 0);
        Due.settle(b, 1);
        is(b, "told in the YEAR in which it was made last", 0, NONE, 0);
    }

    private void lame() {
        edge.sentence("IV", "LAME: what is SHOWN NOW is another row of letters.");
        NameBoard b = land();
        b.sign(0, 1);
        b.next(1);
        is(b, "the same", 0, NONE, 0);
        Due.name(b, "old", 0, 0);
        Due.settle(b, 3);
        is(b, "another NAME of the same letters", 0, NONE, 0);
        Due.spelling(b, 0, "o>o;");
        is(b, "by other RULES", 0, NONE, 0);
        Due.spelling(b, 0, "d>t;");
        is(b, "its last letter", 1, 11, 0);
        Due.spelling(b, 0, "o>u;");
        is(b, "its first letter", 1, 11, 0);
        Due.spelling(b, 0, "d>-;");
        is(b, "a letter less", 1, 11, 0);
        Due.spelling(b, 0, "d>dd;");
        is(b, "a letter more", 1, 11, 0);
        Due.spelling(b, 0, "o>-;l>-;d>-;");
        is(b, "no letters", 1, 11, 0);
        Due.spelling(b, 0, "");
        is(b, "the same again", 0, NONE, 0);
        b.people(0, 0, 2);
        b.people(0, 1, 1);
        Due.act(b, "both;");
        is(b, "one BESIDE it, not SETTLED", 0, NONE, 0);
        Due.settle(b, 2);
        is(b, "one BESIDE it", 1, 11, 0);
        Due.act(b, "first 2;");
        is(b, "nothing", 1, 11, 0);
        b = Boards.places(1);
        b.sign(0, 1);
        b.next(1);
        is(b, "nothing then, nothing NOW", 0, NONE, 0);
        Due.name(b, "new", 0, 0);
        Due.settle(b, 0);
        is(b, "nothing then", 1, 11, 0);
    }

    private void became() {
        edge.sentence("IV", "It became so in the first YEAR from the one in which it was made on from which on what was SHOWN "
                + "(as known in that YEAR) has been another one up to NOW;");
        NameBoard b = land();
        b.sign(0, 1);
        b.next(1);
        Due.settle(b, 1);
        is(b, "in the YEAR behind the one in which it was made", 1, 11, 0);
        b.next(1);
        is(b, "a YEAR later", 1, 11, 0);
        b.undo(0, 0);
        is(b, "as it was", 0, NONE, 0);
        b.next(1);
        b.undo(0, 0);
        is(b, "once more", 1, 13, 0);
        b.next(1);
        Due.settle(b, 1);
        is(b, "another other one", 1, 13, 0);
        b.next(395);
        is(b, "up to the last YEAR", 1, 13, 386);
        for (Consumer<NameBoard> telling : TELLINGS) {
            b = land();
            b.place(1, 1);
            b.people(1, 1, 9);
            b.sign(0, 1);
            b.next(2);
            b.people(1, 1, 8);
            b.next(2);
            telling.accept(b);
            b.keep(0);
            b.next(2);
            b.people(1, 1, 7);
            is(b, "by what was told in 4, " + TELLINGS.indexOf(telling), 1, 14, 0);
            b.back(0);
            b.next(11);
            is(b, "gone back, by what was told in 4, " + TELLINGS.indexOf(telling), 1, 14, 1);
        }
        b = land();
        Due.act(b, "first 1 if year=7; first 1 if year>9;");
        b.next(5);
        b.sign(0, 1);
        b.next(1);
        is(b, "by the YEAR alone, in 6", 0, NONE, 0);
        b.next(1);
        is(b, "by the YEAR alone, in 7", 1, 17, 0);
        b.next(1);
        is(b, "by the YEAR alone, in 8", 0, NONE, 0);
        b.next(391);
        is(b, "by the YEAR alone, in 399", 1, 20, 379);
    }

    private void dueAndLate() {
        edge.sentence("IV", "it must be made anew by that YEAR and N (sign; 10 without; in force NOW);");
        NameBoard b = Boards.lame(1);
        is(b, "without an ACT", 1, 11, 0);
        Due.act(b, "dead 1;");
        is(b, "without a LINE sign", 1, 11, 0);
        Due.act(b, "sign 0;");
        is(b, "sign 0", 1, 1, 0);
        Due.act(b, "sign 9999;");
        is(b, "sign 9999", 1, 10000, 0);
        b.next(398);
        is(b, "in force NOW", 1, 10000, 0);
        Due.act(b, "sign 3;");
        is(b, "told NOW", 1, 4, 395);

        edge.sentence("IV", "LATE are YEARS NOW is beyond that.");
        b = Boards.lame(1);
        b.next(9);
        is(b, "in 10", 1, 11, 0);
        b.next(1);
        is(b, "in 11", 1, 11, 0);
        b.next(1);
        is(b, "in 12", 1, 11, 1);
        b.next(387);
        is(b, "in 399", 1, 11, 388);
        b.anew(0);
        is(b, "made anew", 0, NONE, 0);
    }

    private void planIs(int coin, int sum, String years, int... costs) {
        NameBoard b = Boards.lame(costs);
        edge.is("plan(" + coin + ") due as " + years, b.plan(coin), sum);
        edge.is("years", years(b, costs.length), years);
        edge.is("no SIGN behind them", b.planned(costs.length), NONE);
    }

    private static String years(NameBoard b, int signs) {
        String years = "";
        for (int sign = 0; sign < signs; sign++) {
            years += (sign == 0 ? "" : " ") + b.planned(sign);
        }
        return years;
    }

    private void planYears() {
        edge.sentence("V", "A PLAN: LAME SIGNS (9 at most) made anew in this YEAR (0), or 1, 2, .. later,");
        planIs(5, 0, "0", 5);
        planIs(1, 36, "0 1 2 3 4 5 6 7 8", 1, 1, 1, 1, 1, 1, 1, 1, 1);
        planIs(9999, 0, "0 0 0 0 0 0 0 0 0", 1111, 1111, 1111, 1111, 1111, 1111, 1111, 1111, 1111);
        planIs(9999, NONE, "-1 -1 -1 -1 -1 -1 -1 -1 -1 -1", 0, 0, 0, 0, 0, 0, 0, 0, 0, 0);
        NameBoard b = Boards.lame(4, 4);
        b.sign(0, 4);
        edge.is("one is not LAME", b.plan(4), 1);
        edge.is("years", years(b, 3), "0 1 -1");
        b = land();
        for (int i = 0; i < 40; i++) {
            b.sign(0, 1);
        }
        b.next(1);
        b.undo(0, 0);
        for (int i = 0; i < 31; i++) {
            b.anew(i);
        }
        edge.is("9 LAME ones, the last of 40", b.plan(1), 36);
        edge.is("the last", b.planned(39), 8);
        edge.is("the first LAME one", b.planned(31), 0);
        edge.is("not LAME", b.planned(30), NONE);

        edge.sentence("V", "each YEAR's COSTS together no more than the coin;");
        planIs(11, 0, "0 0", 5, 6);
        planIs(10, 1, "0 1", 5, 6);
        planIs(6, 1, "0 1", 5, 6);
        planIs(0, 0, "0 0", 0, 0);
        planIs(1, 1, "0 0 1 0", 0, 1, 1, 0);
        planIs(9999, 1, "0 0 1", 9998, 1, 1);
        planIs(9999, 3, "0 1 2", 9999, 9999, 9999);
    }

    private void planLeast() {
        edge.sentence("V", "the sum of these numbers the least; of several the first by SIGNS, one by one.");
        planIs(10, 1, "1 0 0", 10, 5, 5);
        planIs(10, 4, "2 0 0 1 1", 10, 5, 5, 5, 5);
        planIs(10, 2, "0 1 1 0", 6, 5, 5, 4);
        planIs(4, 1, "0 0 1", 2, 2, 2);
        planIs(5, 1, "0 0 1", 2, 3, 3);
        planIs(5, 1, "0 1 0", 3, 3, 2);
        planIs(10, 2, "0 1 1 0", 7, 6, 4, 3);
        planIs(10, 2, "0 0 1 1", 3, 7, 6, 4);
    }

    private void sign() {
        edge.sentence("28", "A SIGN at a PLACE is made NOW (it shows what is SHOWN now), of a COST (0 .. 9999): its number.");
        NameBoard b = land();
        b.next(6);
        edge.is("the first", b.sign(0, 0), 0);
        edge.is("the second", b.sign(0, 9999), 1);
        is(b, "made NOW", 0, NONE, 0);
        edge.is("its YEAR", b.signOf(1, 3), 6);
        edge.is("the least COST", b.signOf(0, 5), 0);
        edge.is("the greatest COST", b.signOf(1, 5), 9999);
        edge.taken("place", (x, v) -> x.sign(v, 1), 0, 3);
        edge.taken("cost", (x, v) -> x.sign(0, v), 0, 9999);

        edge.sentence("28", "-2: there is none such, another COST;");
        edge.refusedBeside("place", 0, 3, -2, (x, v) -> x.sign(v, 1));
        edge.refusedBeside("cost", 0, 9999, -2, (x, v) -> x.sign(0, v));
        edge.is("at a PLACE of none", new NameBoard().sign(0, 1), -2);

        edge.sentence("28", "-3: there are 40.");
        edge.is("the 40th", Boards.signs(39).sign(0, 1), 39);
        edge.on(Boards.SIGNS);
        edge.refused("a 41st", -3, x -> x.sign(0, 1));
        edge.refused("a 41st of no COST", -2, x -> x.sign(0, 10000));
    }

    private void anew() {
        edge.sentence("29", "A SIGN is made anew NOW: 0.");
        NameBoard b = Boards.FULL.get();
        edge.is("it is LAME", b.signOf(0, 0), 1);
        edge.is("anew(0)", b.anew(0), 0);
        edge.is("it is not LAME", b.signOf(0, 0), 0);
        edge.is("its YEAR", b.signOf(0, 3), 12);
        edge.is("its PLACE", b.signOf(0, 4), 0);
        edge.is("its COST", b.signOf(0, 5), 7);
        edge.is("another one stays LAME", b.signOf(1, 0), 1);
        edge.is("one that is not LAME", b.anew(2), 0);
        edge.is("its YEAR", b.signOf(2, 3), 12);
        edge.taken("sign", (x, v) -> x.anew(v), 0, 2);
        edge.is("the 40th", Boards.signs(40).anew(39), 0);

        edge.sentence("29", "-2: there is none such.");
        edge.refusedBeside("sign", 0, 3, -2, (x, v) -> x.anew(v));
        edge.is("of none", new NameBoard().anew(0), -2);
    }

    private void signOf() {
        edge.sentence("30", "Of a SIGN, what 0: 1 it is LAME, else 0; 1: the YEAR by which it must be made anew (NONE: it is not LAME); "
                + "2: how many YEARS it is LATE; 3: in which YEAR it was made; 4: its PLACE; 5: its COST.");
        int[][] want = {{1, 9, 3, 0, 0, 7}, {1, 9, 3, 0, 2, 9}, {0, NONE, 0, 5, 2, 3}, {0, NONE, 0, 12, 3, 2}};
        for (int sign = 0; sign < want.length; sign++) {
            for (int what = 0; what <= 5; what++) {
                edge.is("signOf(" + sign + ", " + what + ")", Boards.FULL.get().signOf(sign, what), want[sign][what]);
            }
        }
        NameBoard b = Boards.lame(1);
        b.next(10);
        is(b, "by NOW", 1, 11, 0);
        b.next(1);
        is(b, "a YEAR ahead of NOW", 1, 11, 1);

        edge.sentence("30", "-2 for others.");
        edge.refused("what", -2, (x, v) -> x.signOf(0, v), MIN, -1, 6, MAX);
        for (int what = 0; what <= 5; what++) {
            int w = what;
            edge.refusedBeside("what " + what + " of sign", 0, 3, -2, (x, v) -> x.signOf(v, w));
        }
        edge.is("of none", new NameBoard().signOf(0, 0), -2);
    }

    private void plan() {
        edge.sentence("31", "PLAN (V) with so much coin a YEAR (0 .. 9999): the least sum;");
        edge.is("no SIGNS, no coin", new NameBoard().plan(0), 0);
        edge.is("no SIGNS, all coin", new NameBoard().plan(9999), 0);
        edge.is("16 for 7 and 9", Boards.FULL.get().plan(16), 0);
        edge.is("15 for 7 and 9", Boards.FULL.get().plan(15), 1);
        edge.is("9 for 7 and 9", Boards.FULL.get().plan(9), 1);
        edge.taken("coin", (x, v) -> x.plan(v), 9, 15);

        edge.sentence("31", "NONE: some LAME SIGN costs more, or there are more than 9.");
        edge.refused("coin", NONE, (x, v) -> x.plan(v), 0, 8);
        NameBoard b = Boards.FULL.get();
        b.anew(1);
        edge.is("one that costs more, but is not LAME", b.plan(8), 0);
        edge.on(() -> Boards.lame(0, 0, 0, 0, 0, 0, 0, 0, 0, 0));
        edge.refused("10 LAME ones, coin", NONE, (x, v) -> x.plan(v), 0, 9999);
        b = Boards.lame(0, 0, 0, 0, 0, 0, 0, 0, 0, 0);
        b.anew(9);
        edge.is("9 LAME ones", b.plan(0), 0);

        edge.sentence("31", "-2: another number.");
        edge.refusedBeside("coin", 0, 9999, -2, (x, v) -> x.plan(v));
        edge.is("without SIGNS", new NameBoard().plan(10000), -2);
    }

    private void planned() {
        edge.sentence("32", "In how many YEARS from NOW a SIGN is made anew in the latest PLAN that told a sum; NONE.");
        NameBoard b = Boards.lame(1, 2, 3);
        edge.is("ahead of any", years(b, 3), "-1 -1 -1");
        b.plan(3);
        edge.is("in the PLAN", years(b, 3), "0 0 1");
        edge.is("plan(2)", b.plan(2), NONE);
        edge.is("it told no sum", years(b, 3), "0 0 1");
        b.plan(-1);
        edge.is("another number", years(b, 3), "0 0 1");
        b.plan(6);
        edge.is("the latest", years(b, 3), "0 0 0");
        b.anew(1);
        edge.is("the PLAN stays", years(b, 3), "0 0 0");
        b.plan(3);
        edge.is("one is not LAME in it", years(b, 3), "0 -1 1");
        b.anew(0);
        b.anew(2);
        b.plan(3);
        edge.is("none is LAME in it", years(b, 3), "-1 -1 -1");
        b = Boards.FULL.get();
        edge.is("a LAME one", b.planned(1), 0);
        edge.is("one that is not LAME", b.planned(2), NONE);
        edge.refused("sign", NONE, (x, v) -> x.planned(v), MIN, -1, 4, 39, 40, MAX);
    }
}
