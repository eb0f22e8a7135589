/** Promises 12, 13 and 19 to 21: ACTS, their FAULTS, which TONGUE is FIRST, which BESIDE it, swings. */
public final class ActTest {
    private static final int NONE = NameBoard.NONE;
    private static final Due due = new Due();

    public static void main(String[] args) {
        act();
        faultsOfActs();
        first();
        conds();
        asKnown();
        beside();
        swings();
        due.end();
    }

    private static NameBoard land() {
        NameBoard b = new NameBoard();
        for (int i = 0; i < 4; i++) {
            b.place(10 * i, 0);
        }
        return b;
    }

    private static void act() {
        due.part("12 act");
        NameBoard b = land();
        due.is("empty", Due.act(b, ""), 0);
        due.is("blanks", Due.act(b, " \n "), 0);
        due.is("all LINES", Due.act(b, "first 0; first 2 if share 1 > 50 and not people < 10; both; both if parts = 0;"
                + "far 9999 apart 3; dead 10; sign 0; votes 60;"), 8);
        due.is("the TAPE is empty", b.count(9), 0);
        due.is("no blanks", Due.act(b, "first0ifyear<7andnotshare2=007;"), -4);
        due.is("ifyear is one word", b.fault(1), 6);
        due.is("numbers part words", Due.act(b, "first0if year<7and not share2=007;dead0000000000000005;"), 2);
        due.is("12 LINES", Due.act(b, "dead 1;".repeat(12)), 12);
        due.is("four CONDS", Due.act(b, "both if year<1 and year<2 and not year<3 and year<4; both if year=1 and year=2;"), 2);
        due.is("count(4)", b.count(4), 6);
        due.is("act 6", Due.act(b, ""), 0);
        due.is("a FAULT", Due.act(b, "x"), -4);
        due.is("act 7", Due.act(b, "dead 9999;"), 1);
        due.is("act 8", Due.act(b, "?"), -3);
        due.is("the TAPE stays", b.count(9), 1);
        due.is("it was not read", b.fault(0), 0);
        due.is("count(4)", b.count(4), 8);
    }

    private static void faultsOfActs() {
        due.part("12, 13 FAULTS of ACTS");
        faulty("first;", 1, 5);
        faulty("first", 1, 5);
        faulty("first 3;", 2, 6);
        faulty("first 10000;", 2, 6);
        faulty("first 0", 1, 7);
        faulty("first 0 if;", 1, 10);
        faulty("first 0 share 1 > 2;", 1, 8);
        faulty("first 0 if share > 2;", 1, 17);
        faulty("first 0 if share 3 > 2;", 2, 17);
        faulty("first 0 if share 1 2;", 1, 19);
        faulty("first 0 if share 1 >;", 1, 20);
        faulty("first 0 if share 1 > 10000;", 2, 21);
        faulty("first 0 if share 1 > 99999999999999999999;", 2, 21);
        faulty("first 0 if share 1 > 9999", 1, 25);
        faulty("first 0 if not not year < 1;", 1, 15);
        faulty("first 0 if not;", 1, 14);
        faulty("first 0 if year <> 1;", 1, 17);
        faulty("first 0 if year - 1;", 1, 16);
        faulty("first 0 if year # 1;", 1, 16);
        faulty("first 0 if people 0 < 1;", 1, 18);
        faulty("first 0 if year < 1 and;", 1, 23);
        faulty("first 0 if year < 1 if year < 2;", 1, 20);
        faulty("first 0 and year < 1;", 1, 8);
        faulty("both 0;", 1, 5);
        faulty("both if 7 < 1;", 1, 8);
        faulty("far 1;", 1, 5);
        faulty("far 1 apart;", 1, 11);
        faulty("far apart 1;", 1, 4);
        faulty("far 1 2;", 1, 6);
        faulty("far 1 aparts 2;", 1, 6);
        faulty("far 10000 apart 1;", 2, 4);
        faulty("far 1 apart 10000;", 2, 12);
        faulty("dead 1 if year < 1;", 1, 7);
        faulty("dead;", 1, 4);
        faulty("sign x;", 1, 5);
        faulty("votes 10000;", 2, 6);
        faulty("10000;", 1, 0);
        faulty("firsts 0;", 1, 0);
        faulty("firs 0;", 1, 0);
        faulty(";", 1, 0);
        faulty("dead 1;;", 1, 7);
        faulty("dead 1; if", 1, 8);
        faulty("dead 1.", 1, 6);
        faulty("Dead 1;", 1, 0);
        faulty("dead -1;", 1, 5);
        String four = "both if year<1 and year<2 and year<3 and year<4";
        faulty(four + " and year<5;", 3, 52);
        faulty(four + " and not;", 3, 52);
        faulty(four + " and share;", 3, 52);
        faulty(four + " and 5;", 1, 52);
        faulty(four + " and first;", 1, 52);
        faulty(four + " and", 1, 51);
        faulty(four + " year<5;", 1, 48);
        String twelve = "dead 1;".repeat(12);
        faulty(twelve + "dead", 3, 84);
        faulty(twelve + " both", 3, 85);
        faulty(twelve + " far", 3, 85);
        faulty(twelve + " if", 1, 85);
        faulty(twelve + " 10000", 1, 85);
        faulty(twelve + ";", 1, 84);
    }

    private static void faulty(String text, int what, int at) {
        NameBoard b = land();
        due.is("'" + text + "'", Due.act(b, text), -4);
        due.is("fault(0) of '" + text + "'", b.fault(0), what);
        due.is("fault(1) of '" + text + "'", b.fault(1), at);
        due.is("count(4)", b.count(4), 0);
        due.is("count(9)", b.count(9), 0);
    }

    private static void first() {
        due.part("19 first");
        NameBoard b = land();
        due.is("nobody", b.first(0, 0, 0), 0);
        b.people(0, 2, 5);
        due.is("the most", b.first(0, 0, 0), 2);
        b.people(0, 1, 5);
        due.is("of several the least", b.first(0, 0, 0), 1);
        b.part(1, 0);
        b.people(1, 2, 1);
        due.is("with its parts", b.first(0, 0, 0), 2);
        Due.act(b, "first 0 if people > 11; first 1 if people > 10; first 0;");
        due.is("the first LINE that holds", b.first(0, 0, 0), 1);
        due.is("of another PLACE", b.first(1, 0, 0), 0);
        Due.act(b, "dead 1;");
        due.is("without a LINE", b.first(0, 0, 0), 2);
        due.is("place 4", b.first(4, 0, 0), -2);
        due.is("place -1", b.first(-1, 0, 0), -2);
        due.is("year 400", b.first(0, 400, 0), -2);
        due.is("year -1", b.first(0, -1, 0), -2);
        due.is("known 400", b.first(0, 0, 400), -2);
        due.is("known -1", b.first(0, 0, -1), -2);
    }

    /** Place 0 has 1 of 0, 2 of 1 and 6 of 2, some of them in two parts, one of these a part of the other. */
    private static void conds() {
        due.part("19 CONDS");
        String[] hold = {"share 0 = 11", "share 1 = 22", "share 2 = 66", "share 2 > 65", "share 2 < 67", "not share 2 = 67",
            "not share 2 > 66", "not share 2 < 66", "people = 9", "people > 8", "people < 10", "parts = 1", "not parts = 2",
            "year = 50", "year < 51", "year > 49", "year = 50 and people = 9 and parts = 1 and not share 0 = 0"};
        String[] fail = {"share 0 = 12", "share 2 > 66", "share 2 < 66", "people < 9", "people > 9", "parts > 1", "parts < 1",
            "not year = 50", "year = 50 and people = 9 and parts = 1 and share 0 = 0", "year = 0 and people = 9"};
        for (int i = 0; i < hold.length + fail.length; i++) {
            NameBoard b = land();
            b.people(0, 0, 1);
            b.part(1, 0);
            b.people(1, 1, 2);
            b.part(2, 1);
            b.people(2, 2, 6);
            String cond = i < hold.length ? hold[i] : fail[i - hold.length];
            Due.act(b, "first 1 if " + cond + "; first 0;");
            due.is("first if " + cond, b.first(0, 50, 0), i < hold.length ? 1 : 0);
        }
        NameBoard b = land();
        Due.act(b, "first 1 if share 0 > 0; first 2 if share 0 = 0 and people = 0;");
        due.is("shares without people", b.first(0, 0, 0), 2);
        due.is("a FAULT", Due.act(b, "first 0 if year = 7; both if year = 7; far 3 apart 4; x"), -4);
        due.is("the next one", Due.act(b, "first 1; both;"), 2);
        b.people(0, 2, 1);
        due.is("nothing of the faulty one is left", b.first(0, 0, 0), 1);
        due.is("nothing of the faulty one is left", b.beside(0, 0, 0), 2);
    }

    private static void asKnown() {
        due.part("19 as known");
        NameBoard b = land();
        Due.act(b, "first 1;");
        b.next(10);
        Due.act(b, "first 2 if year < 15; first 0;");
        Due.act(b, "first 2 if year < 20; first 0;");
        due.is("in 9", b.first(0, 9, 10), 1);
        due.is("in 10", b.first(0, 10, 10), 2);
        due.is("in 10 as known in 9", b.first(0, 10, 9), 1);
        due.is("in 19", b.first(0, 19, 10), 2);
        due.is("in 20", b.first(0, 20, 10), 0);
        due.is("the YEAR asked, not the one known", b.first(0, 30, 10), 0);
    }

    private static void beside() {
        due.part("20 beside");
        NameBoard b = land();
        b.people(0, 0, 3);
        b.people(0, 1, 2);
        b.people(0, 2, 2);
        due.is("without an ACT", b.beside(0, 0, 0), NONE);
        Due.act(b, "both if year > 10; both if year = 7;");
        due.is("none holds", b.beside(0, 0, 0), NONE);
        due.is("the second holds", b.beside(0, 7, 0), 1);
        due.is("the first holds", b.beside(0, 11, 0), 1);
        due.is("nobody there", b.beside(1, 11, 0), NONE);
        b.people(0, 2, 3);
        due.is("the most of the others", b.beside(0, 7, 0), 2);
        Due.act(b, "first 2; both;");
        due.is("beside another FIRST one", b.beside(0, 0, 0), 0);
        b.people(0, 0, 0);
        due.is("beside another FIRST one", b.beside(0, 0, 0), 1);
        b.people(0, 1, 0);
        due.is("1 at least", b.beside(0, 0, 0), NONE);
        b.next(1);
        b.part(1, 0);
        b.people(1, 1, 1);
        due.is("with its parts", b.beside(0, 1, 1), 1);
        due.is("as known in 0", b.beside(0, 1, 0), NONE);
        due.is("place 4", b.beside(4, 0, 0), -2);
        due.is("place -1", b.beside(-1, 0, 0), -2);
        due.is("year 400", b.beside(0, 400, 0), -2);
        due.is("known 400", b.beside(0, 0, 400), -2);
        due.is("known -1", b.beside(0, 0, -1), -2);
    }

    private static void swings() {
        due.part("21 swings");
        NameBoard b = land();
        due.is("place 4", b.swings(4), -2);
        due.is("place -1", b.swings(-1), -2);
        due.is("nobody", b.swings(0), NONE);
        b.people(0, 0, 10);
        b.people(0, 1, 4);
        due.is("4 of 0 to be of 1: 6 and 8; 3: 7 and 7", b.swings(0), 4);
        b.people(0, 2, 9);
        due.is("1 of 0 to be of 2", b.swings(0), 1);
        b.people(0, 0, 0);
        b.people(0, 2, 0);
        due.is("2 of 1 to be of 0", b.swings(0), 2);
        b.part(1, 0);
        b.people(1, 1, 100);
        due.is("its own alone are moved", b.swings(0), NONE);
        due.is("its part", b.swings(1), 50);
        Due.act(b, "first 2 if share 2 > 2; first 1;");
        due.is("4 of 104 are 3 hundredths", b.swings(0), 4);
        Due.act(b, "first 2 if share 2 > 3; first 1;");
        due.is("too few of its own", b.swings(0), NONE);
        Due.act(b, "first 1;");
        due.is("nothing swings", b.swings(1), NONE);
        Due.act(b, "first 0 if share 1 = 50; first 1;");
        due.is("50 or 49", b.swings(1), 50);
        b.people(1, 1, 2000);
        due.is("2000", b.swings(1), 981);
        Due.act(b, "first 0 if share 1 < 1; first 1;");
        due.is("all but 19", b.swings(1), 1981);
        b.next(1);
        Due.act(b, "first 0 if year = 1 and share 0 > 0; first 1;");
        due.is("in this YEAR", b.swings(1), 20);
    }
}
