/** Promises 28 to 32: SIGNS, when they are LAME, and the PLAN. */
public final class SignTest {
    private static final int NONE = NameBoard.NONE;
    private static final Due due = new Due();

    public static void main(String[] args) {
        sign();
        anew();
        lame();
        lameByYear();
        lameByAll();
        lameAndBack();
        sameYear();
        plan();
        planTies();
        planned();
        due.end();
    }

    /** n PLACES, each with two NAMES in TONGUE 0, the first of them SETTLED. */
    private static NameBoard land(int n) {
        NameBoard b = new NameBoard();
        for (int i = 0; i < n; i++) {
            b.place(i, i);
            Due.name(b, "old", i, 0);
            Due.name(b, "new", i, 0);
            Due.settle(b, 2 * i);
        }
        return b;
    }

    private static void sign() {
        due.part("28 sign");
        NameBoard b = land(2);
        due.is("place 2", b.sign(2, 1), -2);
        due.is("place -1", b.sign(-1, 1), -2);
        due.is("cost -1", b.sign(0, -1), -2);
        due.is("cost 10000", b.sign(0, 10000), -2);
        for (int i = 0; i < 40; i++) {
            due.is("sign " + i, b.sign(i % 2, i == 0 ? 9999 : 0), i);
        }
        due.is("sign 40", b.sign(0, 0), -3);
        due.is("sign 40, wrong", b.sign(2, 0), -2);
        due.is("count(7)", b.count(7), 40);
        due.is("its COST", b.signOf(0, 5), 9999);
        due.is("its PLACE", b.signOf(1, 4), 1);
        due.is("its YEAR", b.signOf(1, 3), 0);
        due.is("LAME", b.count(8), 0);
    }

    private static void anew() {
        due.part("29 anew");
        NameBoard b = land(1);
        due.is("anew(0)", b.anew(0), -2);
        b.sign(0, 3);
        due.is("anew(1)", b.anew(1), -2);
        due.is("anew(-1)", b.anew(-1), -2);
        b.next(5);
        Due.settle(b, 1);
        due.is("LAME", b.signOf(0, 0), 1);
        due.is("anew(0)", b.anew(0), 0);
        due.is("not LAME", b.signOf(0, 0), 0);
        due.is("its YEAR", b.signOf(0, 3), 5);
        due.is("its COST", b.signOf(0, 5), 3);
        b.next(5);
        b.undo(0, 0);
        due.is("LAME again", b.signOf(0, 0), 1);
    }

    private static void state(NameBoard b, int sign, int lame, int by, int late) {
        due.is("signOf(" + sign + ", 0) in " + b.count(0), b.signOf(sign, 0), lame);
        due.is("signOf(" + sign + ", 1) in " + b.count(0), b.signOf(sign, 1), by);
        due.is("signOf(" + sign + ", 2) in " + b.count(0), b.signOf(sign, 2), late);
    }

    private static void lame() {
        due.part("30 signOf");
        NameBoard b = land(2);
        b.next(10);
        b.sign(0, 7);
        b.sign(1, 8);
        b.next(10);
        state(b, 0, 0, NONE, 0);
        Due.settle(b, 1);
        state(b, 0, 1, 30, 0);
        state(b, 1, 0, NONE, 0);
        b.next(10);
        state(b, 0, 1, 30, 0);
        b.next(3);
        state(b, 0, 1, 30, 3);
        Due.act(b, "sign 3; sign 4;");
        state(b, 0, 1, 24, 9);
        due.is("count(8)", b.count(8), 1);
        Due.spelling(b, 0, "e>u;");
        state(b, 0, 1, 24, 9);
        state(b, 1, 0, NONE, 0);
        Due.spelling(b, 0, "o>u;");
        state(b, 1, 1, 37, 0);
        due.is("count(8)", b.count(8), 2);
        Due.act(b, "dead 1;");
        state(b, 0, 1, 30, 3);
        b.people(0, 2, 1);
        state(b, 0, 1, 30, 3);
        due.is("what 6", b.signOf(0, 6), -2);
        due.is("what -1", b.signOf(0, -1), -2);
        due.is("sign 2", b.signOf(2, 0), -2);
        due.is("sign -1", b.signOf(-1, 0), -2);
        due.is("a YEAR beyond 399", far(), 408);
    }

    private static int far() {
        NameBoard b = land(1);
        b.sign(0, 1);
        b.next(398);
        b.undo(0, 0);
        return b.signOf(0, 1);
    }

    /** An ACT may look at the YEAR: then what is SHOWN changes though nothing is told. */
    private static void lameByYear() {
        due.part("30 by the YEAR");
        NameBoard b = land(1);
        Due.act(b, "first 1 if year > 50; first 0;");
        b.sign(0, 1);
        b.next(50);
        state(b, 0, 0, NONE, 0);
        b.next(1);
        state(b, 0, 1, 61, 0);
        b.next(49);
        state(b, 0, 1, 61, 39);
        Due.act(b, "first 1;");
        state(b, 0, 1, 61, 39);
        b.next(1);
        b.anew(0);
        state(b, 0, 0, NONE, 0);
    }

    /** Each thing that can change what is SHOWN: it is LAME from that YEAR on, not from a later one. */
    private static void lameByAll() {
        due.part("30 by all that is told");
        for (int what = 0; what < 7; what++) {
            NameBoard b = land(2);
            b.people(1, 1, 9);
            b.sign(0, 1);
            b.next(3);
            b.people(1, 1, 8);
            b.next(4);
            switch (what) {
                case 0 -> b.part(1, 0);
                case 1 -> b.people(0, 1, 1);
                case 2 -> Due.act(b, "first 1;");
                case 3 -> Due.spelling(b, 0, "o>a;");
                case 4 -> Due.settle(b, 1);
                case 5 -> b.undo(0, 0);
                default -> {
                    b.row(0, 0, 3);
                    b.write(0, 1, 2);
                    b.write(0, 2, 5);
                    b.counted(0);
                }
            }
            b.next(5);
            b.people(1, 1, 7);
            state(b, 0, 1, 17, 0);
            b.keep(0);
            b.next(6);
            state(b, 0, 1, 17, 1);
            b.back(0);
            state(b, 0, 1, 17, 0);
        }
    }

    /** LAME, then not, then LAME again: it counts from the last time on. */
    private static void lameAndBack() {
        due.part("30 LAME and back");
        NameBoard b = land(1);
        b.sign(0, 1);
        b.next(10);
        Due.settle(b, 1);
        b.next(10);
        state(b, 0, 1, 20, 0);
        b.undo(0, 0);
        state(b, 0, 0, NONE, 0);
        b.next(10);
        b.undo(0, 0);
        b.next(5);
        state(b, 0, 1, 40, 0);
        Due.settle(b, 1);
        state(b, 0, 1, 40, 0);
    }

    /** What a SIGN shows is what was SHOWN in its YEAR as known then: all that was told in it. */
    private static void sameYear() {
        due.part("30 told in the YEAR in which it was made");
        NameBoard b = land(1);
        b.sign(0, 1);
        Due.settle(b, 1);
        state(b, 0, 0, NONE, 0);
        b.next(1);
        state(b, 0, 0, NONE, 0);
        b.undo(0, 0);
        state(b, 0, 1, 11, 0);
    }

    /** SIGNS of these COSTS, all LAME. */
    private static NameBoard lameSigns(int... costs) {
        NameBoard b = land(1);
        for (int cost : costs) {
            b.sign(0, cost);
        }
        b.next(1);
        b.undo(0, 0);
        return b;
    }

    private static void planIs(int coin, int sum, String years, int... costs) {
        NameBoard b = lameSigns(costs);
        due.is("plan(" + coin + ") of " + years, b.plan(coin), sum);
        due.is("years", years(b, costs.length), years);
    }

    private static String years(NameBoard b, int signs) {
        StringBuilder text = new StringBuilder();
        for (int i = 0; i < signs; i++) {
            text.append(i == 0 ? "" : " ").append(b.planned(i));
        }
        return text.toString();
    }

    private static void plan() {
        due.part("31 plan");
        NameBoard b = new NameBoard();
        due.is("no SIGNS", b.plan(0), 0);
        due.is("coin -1", b.plan(-1), -2);
        due.is("coin 10000", b.plan(10000), -2);
        due.is("coin 9999", b.plan(9999), 0);
        planIs(5, NONE, "-1 -1", 5, 6);
        planIs(6, 1, "0 1", 5, 6);
        planIs(11, 0, "0 0", 5, 6);
        planIs(0, 0, "0 0 0", 0, 0, 0);
        planIs(0, NONE, "-1", 1);
        planIs(1, 36, "0 1 2 3 4 5 6 7 8", 1, 1, 1, 1, 1, 1, 1, 1, 1);
        planIs(2, 16, "0 0 1 1 2 2 3 3 4", 1, 1, 1, 1, 1, 1, 1, 1, 1);
        planIs(10, 3, "1 0 2 0", 9, 5, 10, 5);
        planIs(10, 2, "0 1 1 0", 5, 4, 6, 5);
        planIs(9999, NONE, "-1 -1 -1 -1 -1 -1 -1 -1 -1 -1", 0, 0, 0, 0, 0, 0, 0, 0, 0, 0);
        planIs(9999, 36, "0 1 2 3 4 5 6 7 8", 9999, 9999, 9999, 9999, 9999, 9999, 9999, 9999, 9999);
    }

    private static void planTies() {
        due.part("31 the first by SIGNS");
        planIs(3, 1, "0 0 1", 1, 2, 3);
        planIs(3, 1, "0 1 0", 1, 3, 2);
        planIs(4, 1, "0 0 1", 2, 2, 2);
        planIs(4, 2, "0 0 1 1", 2, 2, 2, 2);
        planIs(10, 2, "0 0 1 1", 5, 5, 5, 5);
        planIs(10, 2, "0 1 1 0", 7, 6, 4, 3);
    }

    private static void planned() {
        due.part("32 planned");
        NameBoard b = lameSigns(1, 2, 3);
        due.is("ahead of any", b.planned(0), NONE);
        due.is("plan(3)", b.plan(3), 1);
        due.is("years", years(b, 3), "0 0 1");
        due.is("planned(3)", b.planned(3), NONE);
        due.is("planned(-1)", b.planned(-1), NONE);
        due.is("planned(40)", b.planned(40), NONE);
        due.is("plan(2)", b.plan(2), NONE);
        due.is("the latest that told a sum", years(b, 3), "0 0 1");
        due.is("plan(-1)", b.plan(-1), -2);
        due.is("the latest that told a sum", years(b, 3), "0 0 1");
        b.anew(0);
        due.is("plan(3)", b.plan(3), 1);
        due.is("one is not LAME any more", years(b, 3), "-1 0 1");
        b.keep(0);
        b.anew(1);
        b.anew(2);
        due.is("none is LAME", b.plan(3), 0);
        due.is("years", years(b, 3), "-1 -1 -1");
        b.back(0);
        due.is("what was found stays", years(b, 3), "-1 -1 -1");
    }
}
