/** Edges of term III and of promises 12 and 19 to 21: ACTS, which TONGUE is FIRST, which BESIDE it, what swings. */
final class EdgesOfActs {
    private static final int NONE = NameBoard.NONE;

    private final Edge edge;

    EdgesOfActs(Edge e) {
        edge = e;
    }

    void run() {
        tokens();
        grammar();
        conds();
        shares();
        otherConds();
        inForce();
        lastLines();
        first();
        beside();
        swing();
        act();
        firstAsked();
        besideAsked();
        swings();
    }

    private void reads(String text, int lines) {
        NameBoard b = Boards.names(1);
        edge.is("'" + text + "'", Due.act(b, text), lines);
        edge.is("'" + text + "' has no FAULT", b.fault(0), 0);
    }

    private void faulty(String text, int fault, int at) {
        NameBoard b = Boards.names(1);
        edge.is("'" + text + "'", Due.act(b, text), -4);
        edge.is("the FAULT of '" + text + "'", b.fault(0), fault);
        edge.is("its place in '" + text + "'", b.fault(1), at);
    }

    private void tokens() {
        edge.sentence("III", "ACTS are texts; TOKENS also numbers (digits), < and =.");
        reads("both if year<1 and year=2 and year>3;", 1);
        reads("dead1;sign2;votes3;far4apart5;first1if year<0;", 5);
        reads("\ndead\n0\n;\n", 1);
        faulty("dead 1 2;", 1, 7);
        faulty("dead 1a;", 1, 6);
        faulty("deada 1;", 1, 0);
        faulty("dead 1#;", 1, 6);
        faulty("dead -1;", 1, 5);
        faulty("dead >1;", 1, 5);
        for (int sign = 0; sign < 256; sign++) {
            String text = "dead 1" + (char) sign + ";";
            if (sign == ' ' || sign == '\n' || sign >= '0' && sign <= '9') {
                reads(text, 1);
            } else {
                faulty(text, 1, sign == ';' ? 7 : 6);
            }
        }
    }

    private void grammar() {
        edge.sentence("III", "TEXT: {LINE ;}, 12 at most.");
        reads("", 0);
        reads("  ", 0);
        reads("both;", 1);
        reads("both;".repeat(12), 12);
        faulty("both;".repeat(13), 3, 60);
        faulty("both", 1, 4);
        faulty("both both;", 1, 5);
        faulty(";", 1, 0);
        faulty("both;;", 1, 5);

        edge.sentence("III", "LINE: first T [if COND {and COND}] | both [if COND {and COND}] | far N apart N | dead N | sign N | votes N.");
        reads("first 0;first 0 if year<1;first 0 if year<1 and year<1;both;both if year<1;both if year<1 and year<1;"
                + "far 0 apart 0;dead 0;sign 0;votes 0;", 10);
        faulty("first;", 1, 5);
        faulty("first 0 1;", 1, 8);
        faulty("first 0 if;", 1, 10);
        faulty("first 0 year<1;", 1, 8);
        faulty("first 0 if year<1 year<1;", 1, 18);
        faulty("first 0 if year<1 and;", 1, 21);
        faulty("first 0 if year<1 if year<1;", 1, 18);
        faulty("both 0;", 1, 5);
        faulty("both and year<1;", 1, 5);
        faulty("far 1;", 1, 5);
        faulty("far apart 1;", 1, 4);
        faulty("far 1 apart;", 1, 11);
        faulty("far 1 2;", 1, 6);
        faulty("far 1 part 2;", 1, 6);
        faulty("far 1 apart 1 if year<1;", 1, 14);
        faulty("dead;", 1, 4);
        faulty("dead 1 if year<1;", 1, 7);
        faulty("sign;", 1, 4);
        faulty("sign 1 if year<1;", 1, 7);
        faulty("votes;", 1, 5);
        faulty("votes 1 if year<1;", 1, 8);
        faulty("apart 1;", 1, 0);

        edge.sentence("III", "T: a number 0 .. 2 (else fault 2).");
        for (int tongue = 0; tongue <= 2; tongue++) {
            NameBoard b = Boards.names(1);
            edge.is("first " + tongue, Due.act(b, "first " + tongue + ";"), 1);
            edge.is("first " + tongue, b.first(0, 0, 0), tongue);
            reads("both if share " + tongue + "=0;", 1);
        }
        reads("first 002;", 1);
        faulty("first 3;", 2, 6);
        faulty("first 9999;", 2, 6);
        faulty("first 10000;", 2, 6);
        faulty("both if share 3=0;", 2, 14);
        faulty("first x;", 1, 6);
        faulty("both if share =0;", 1, 14);
    }

    /** PLACE 0, of 9 people: 1 of TONGUE 0, 2 of 1 in a part, 6 of 2 in a part of that; the YEAR asked is 50. */
    private void holds(String cond, boolean want) {
        NameBoard b = Boards.places(3);
        b.people(0, 0, 1);
        b.part(1, 0);
        b.people(1, 1, 2);
        b.part(2, 1);
        b.people(2, 2, 6);
        edge.is("first 1 if " + cond + ";", Due.act(b, "first 1 if " + cond + "; first 0;"), 2);
        edge.is(cond, b.first(0, 50, 0), want ? 1 : 0);
    }

    private void conds() {
        edge.sentence("III", "COND: [not] WORD (< or = or >) N;");
        holds("people<9", false);
        holds("people<10", true);
        holds("people=8", false);
        holds("people=9", true);
        holds("people=10", false);
        holds("people>8", true);
        holds("people>9", false);
        holds("not people<9", true);
        holds("not people<10", false);
        holds("not people=9", false);
        holds("not people=10", true);
        holds("not people>8", false);
        holds("not people>9", true);
        faulty("both if people 9;", 1, 15);
        faulty("both if people<;", 1, 15);
        faulty("both if people<=9;", 1, 15);
        faulty("both if <9;", 1, 8);
        faulty("both if not not people<9;", 1, 12);
        faulty("both if not <9;", 1, 12);
        faulty("both if not;", 1, 11);
        faulty("both if not and year<1;", 1, 12);
        faulty("both if people not<9;", 1, 15);
        faulty("both if people>x;", 1, 15);

        edge.sentence("III", "Four CONDS at most.");
        holds("people=9 and people=9 and people=9 and people=9", true);
        holds("people=9 and people=9 and people=9 and not people=9", false);
        holds("people=8 and people=9 and people=9 and people=9", false);
        holds("people=9 and people=9 and people=9", true);
        faulty("both if year<1 and year<1 and year<1 and year<1 and year<1;", 3, 52);
        reads("both if year<1 and year<1 and year<1 and year<1;first 0 if year<1 and year<1 and year<1 and year<1;", 2);
        NameBoard b = of(5, 4, 0);
        String eleven = "both if year<1and year<2and year<3and year=".repeat(11).replace("=", "=0;");
        for (int act = 0; act < 8; act++) {
            String text = "both;" + eleven.substring(0, eleven.length() - 2) + act + ";";
            edge.is("all that fits, in " + text.length() + " bytes", Due.act(b, text), 12);
        }
        b = of(5, 4, 0);
        for (int act = 0; act < 8; act++) {
            Due.act(b, "dead 1;".repeat(11) + "first 2 if year<99 and year<98 and year<97 and not year=" + act + ";");
        }
        edge.is("the last COND of the last LINE of the last ACT holds", b.first(0, 6, 0), 2);
        edge.is("the last COND of the last LINE of the last ACT does not hold", b.first(0, 7, 0), 0);
    }

    private void shares() {
        edge.sentence("III", "WORD: share T (hundredths of a PLACE's people who are of that TONGUE, cut; 0 without people)");
        holds("share 0=11", true);
        holds("share 1=22", true);
        holds("share 2=66", true);
        holds("share 2>66", false);
        holds("share 2<67", true);
        NameBoard b = Boards.places(1);
        Due.act(b, "first 1 if share 2=0 and people=0; first 0 if share 2=100 and people=1; first 2 if share 2=100; first 1 if share 2=99;");
        edge.is("without people", b.first(0, 0, 0), 1);
        b.people(0, 2, 1);
        edge.is("one of one", b.first(0, 0, 0), 0);
        b.people(0, 2, 2000);
        edge.is("all", b.first(0, 0, 0), 2);
        b.people(0, 0, 1);
        edge.is("all but one", b.first(0, 0, 0), 1);
        b = Boards.places(40);
        for (int place = 0; place < 40; place++) {
            b.people(place, 2, 2000);
            b.part(place, place - 1);
        }
        Due.act(b, "first 1 if share 2=100 and people>9999;");
        edge.is("100 times the most people there can be is not too great a number", b.first(0, 0, 0), 1);
    }

    private void otherConds() {
        edge.sentence("III", "| people | parts (PLACES that are parts of it at once) | year.");
        holds("people=9", true);
        holds("parts=0", false);
        holds("parts=1", true);
        holds("parts=2", false);
        holds("year=49", false);
        holds("year=50", true);
        holds("year=51", false);
        NameBoard b = Boards.places(40);
        Due.act(b, "first 2 if parts=39; first 1 if parts=0;");
        edge.is("no parts", b.first(0, 0, 0), 1);
        for (int place = 1; place < 40; place++) {
            b.part(place, 0);
        }
        edge.is("39 parts", b.first(0, 0, 0), 2);
        edge.is("a part has none", b.first(1, 0, 0), 1);
        b.next(1);
        b.part(39, 38);
        edge.is("38 parts at once", b.first(0, 1, 1), 0);
        edge.is("39 as known then", b.first(0, 1, 0), 2);
        edge.is("39 in that YEAR", b.first(0, 0, 1), 2);
    }

    private void inForce() {
        edge.sentence("III", "In force in a YEAR is the ACT told last up to it, as known.");
        NameBoard b = Boards.places(1);
        edge.is("none", b.first(0, 399, 399), 0);
        b.next(4);
        Due.act(b, "first 2;");
        Due.act(b, "first 1;");
        b.next(4);
        Due.act(b, "first 2;");
        int[] want = {0, 0, 0, 0, 1, 1, 1, 1, 2, 2};
        for (int year = 0; year < want.length; year++) {
            edge.is("in " + year, b.first(0, year, 399), want[year]);
            edge.is("as known in " + year, b.first(0, 399, year), want[year]);
        }
        Due.act(b, "");
        edge.is("one of no LINES", b.first(0, 8, 8), 0);
        Due.act(b, "first 1; ?");
        edge.is("one with a FAULT is none", b.first(0, 8, 8), 0);
    }

    private void lastLines() {
        edge.sentence("III", "Of far, dead, sign, votes its last LINE counts.");
        edge.is("votes", closes("votes 51; votes 50;", true, false), 0);
        edge.is("votes", closes("votes 50; votes 51;", true, false), 1);
        edge.is("far", closes("far 0 apart 9; far 1 apart 9;", true), 3);
        edge.is("far", closes("far 1 apart 9; far 0 apart 9;", true), 0);
        edge.is("apart", closes("far 1 apart 9; far 1 apart 0;", true), 0);
        edge.is("dead", closes("dead 8; dead 7;", true), 0);
        edge.is("dead", closes("dead 7; dead 8;", true), 2);
        edge.is("each its own", closes("votes 50; dead 7; far 0 apart 9; sign 3; both;", true, false), 0);
        NameBoard b = Boards.lame(1);
        Due.act(b, "sign 3; sign 5; dead 2;");
        edge.is("sign", b.signOf(0, 1), 6);
        Due.act(b, "sign 5; sign 3; votes 2;");
        edge.is("sign", b.signOf(0, 1), 4);
        Due.act(b, "dead 1;");
        edge.is("without one in the ACT in force", b.signOf(0, 1), 11);
    }

    /** A NAME of a person who died 7 YEARS ago, two EDITS from one SETTLED a mile away. */
    private static int closes(String act, boolean... votes) {
        NameBoard b = Boards.places(2);
        Due.name(b, "abcd", 0, 0);
        Due.settle(b, 0);
        Due.tape(b, "abef").name(1, 1, 0);
        b.next(7);
        Due.act(b, act);
        int hearing = b.ask(1);
        for (int member = 0; member < votes.length; member++) {
            b.vote(hearing, member, votes[member]);
        }
        return b.close(hearing);
    }

    private void first() {
        edge.sentence("III", "FIRST: the TONGUE of its first LINE first whose CONDS hold; without one that of the most people, of several the least.");
        int[][] lives = {{0, 0, 0, 0}, {0, 0, 1, 2}, {0, 1, 1, 1}, {1, 1, 1, 0}, {1, 0, 1, 0}, {1, 2, 1, 1}, {2, 1, 2, 0}, {0, 2, 1, 1}};
        for (int[] l : lives) {
            NameBoard b = of(l[0], l[1], l[2]);
            edge.is(l[0] + ", " + l[1] + ", " + l[2], b.first(0, 0, 0), l[3]);
            Due.act(b, "both; dead 1; first 2 if people>9; first 1 if people>9;");
            edge.is("no LINE holds: " + l[0] + ", " + l[1] + ", " + l[2], b.first(0, 0, 0), l[3]);
        }
        NameBoard b = of(9, 0, 0);
        Due.act(b, "first 2 if people=0; first 1 if people=9; first 2 if people=9; first 2;");
        edge.is("the first that holds", b.first(0, 0, 0), 1);
        Due.act(b, "both;".repeat(11) + "first 2;");
        edge.is("the twelfth LINE", b.first(0, 0, 0), 2);
    }

    private static NameBoard of(int zero, int one, int two) {
        NameBoard b = Boards.places(1);
        b.people(0, 0, zero);
        b.people(0, 1, one);
        b.people(0, 2, two);
        return b;
    }

    private void beside() {
        edge.sentence("III", "BESIDE: if a LINE both holds: of the others that of the most people (1 at least), of several the least; else none.");
        int[][] lives = {{0, 0, 0, NONE}, {5, 0, 0, NONE}, {5, 1, 0, 1}, {5, 0, 1, 2}, {5, 1, 1, 1}, {5, 1, 2, 2}, {5, 5, 5, 1},
            {0, 5, 1, 2}, {1, 5, 1, 0}, {0, 5, 0, NONE}, {1, 1, 5, 0}, {0, 1, 5, 1}, {0, 0, 5, NONE}};
        for (int[] l : lives) {
            NameBoard b = of(l[0], l[1], l[2]);
            String what = l[0] + ", " + l[1] + ", " + l[2];
            edge.is("no ACT: " + what, b.beside(0, 0, 0), NONE);
            Due.act(b, "both if people>99; both if people<99;");
            edge.is(what, b.beside(0, 0, 0), l[3]);
            Due.act(b, "both if people>99;");
            edge.is("none holds: " + what, b.beside(0, 0, 0), NONE);
        }
        NameBoard b = of(5, 1, 0);
        Due.act(b, "first 2; both;");
        edge.is("beside one that nobody is of", b.beside(0, 0, 0), 0);
        Due.act(b, "first 0; dead 1;");
        edge.is("no LINE both", b.beside(0, 0, 0), NONE);
    }

    private void swing() {
        edge.sentence("III", "A PLACE swings, if d people of its own (by its COUNTS NOW, d of them at least) were of one other TONGUE "
                + "instead of theirs, and the FIRST one NOW were another one.");
        edge.is("one of one", of(1, 0, 0).swings(0), 1);
        edge.is("3 of 4, to be 1 and 3: 2 and 2 is still 0", of(4, 0, 0).swings(0), 3);
        edge.is("2 of 4: 2 and 2 is 0", of(0, 4, 0).swings(0), 2);
        edge.is("2 of 5, to be 3 and 5", of(5, 3, 3).swings(0), 2);
        NameBoard b = of(0, 0, 2);
        Due.act(b, "first 0 if share 0=100; first 1;");
        edge.is("all of its own", b.swings(0), 2);
        Due.act(b, "first 0 if share 0=100 and people=3; first 1;");
        edge.is("more than its own", b.swings(0), NONE);
        b = of(1, 1, 0);
        Due.act(b, "first 2 if share 2=100; first 0;");
        edge.is("of two TONGUES", b.swings(0), NONE);
        b = Boards.places(2);
        b.people(0, 0, 4);
        b.people(1, 0, 100);
        b.part(1, 0);
        edge.is("a part's people stay", b.swings(0), NONE);
        edge.is("the part swings alone", b.swings(1), 51);
        NameBoard third = of(0, 3, 4);
        third.place(1, 0);
        third.people(1, 0, 6);
        third.part(1, 0);
        edge.is("3 of the second to be of the third, for the first are a part's", third.swings(0), 3);
        b.next(1);
        b.people(0, 0, 0);
        edge.is("its COUNTS NOW", b.swings(0), NONE);
        b.part(1, NONE);
        b.people(0, 1, 2);
        edge.is("its parts NOW", b.swings(0), 1);
    }

    private void act() {
        edge.sentence("12", "The TAPE (empty then) is an ACT from NOW on: how many LINES.");
        edge.is("no LINES", Due.act(Boards.names(1), ""), 0);
        edge.is("12 LINES", Due.act(Boards.names(1), "dead 1;".repeat(12)), 12);
        NameBoard b = Boards.FULL.get();
        edge.is("one LINE", Due.act(b, "first 2;"), 1);
        edge.is("the TAPE is empty", b.count(9), 0);
        edge.is("ACTS", b.count(4), 2);
        edge.is("ahead of NOW", b.first(0, 11, 12), 1);
        edge.is("NOW", b.first(0, 12, 12), 2);

        edge.sentence("12", "-4: a FAULT; -3: there are 8 (the TAPE stays).");
        b = Due.tape(Boards.FULL.get(), "first 2; both if year>1 and not parts=7; far 9999 apart 9999; dead 99; sign 99; votes 99; ?");
        edge.is("a FAULT", b.act(), -4);
        edge.is("the TAPE is empty", b.count(9), 0);
        edge.is("nothing is told", Edge.difference(Picture.told(b), Picture.told(Boards.FULL.get())), "");
        b = Boards.FULL.get();
        edge.is("a FAULT", Due.act(b, "first 2 if year>50 and year>60; both if year>70; far 9999 apart 9999; dead 99; sign 99; votes 99; ?"), -4);
        edge.is("the next one", Due.act(b, "first 2; both;"), 2);
        edge.is("FIRST, without CONDS", b.first(0, 12, 12), 2);
        edge.is("BESIDE, without CONDS", b.beside(0, 12, 12), 1);
        edge.is("sign of the one with the FAULT", b.signOf(0, 1), 15);
        edge.is("votes, dead and far of the one with the FAULT", b.close(5), 0);
        NameBoard years = Boards.lame(1);
        edge.is("a FAULT", Due.act(years, "first 1 if year>2; sign 3; ?"), -4);
        edge.is("no LINES", Due.act(years, ""), 0);
        edge.is("nothing of the one with the FAULT is left", years.signOf(0, 1), 11);
        b = Boards.acts(7);
        edge.is("the 8th", b.act(), 1);
        edge.is("ACTS", b.count(4), 8);
        b = Due.tape(Boards.acts(8), "ab>c;b>d;");
        edge.is("a 9th", b.act(), -3);
        edge.is("the TAPE stays, byte by byte", b.spelling(0), 2);
        edge.on(Boards.ACTS);
        edge.refused("a 9th", -3, x -> x.act());
        edge.on(() -> Due.tape(Boards.acts(8), "?"));
        edge.refused("a 9th with a FAULT", -3, x -> x.act());
    }

    private void firstAsked() {
        edge.sentence("19", "The TONGUE that is FIRST in a PLACE in a YEAR as known in a YEAR (III).");
        NameBoard b = Boards.FULL.get();
        edge.is("in 4", b.first(0, 4, 12), 0);
        edge.is("in 5", b.first(0, 5, 12), 1);
        edge.is("in 5 as known in 4", b.first(0, 5, 4), 0);
        Due.act(b, "first 2 if year=30;");
        edge.is("the YEAR asked", b.first(0, 30, 12), 2);
        edge.is("not the one known", b.first(0, 12, 30), 1);
        edge.is("as known ahead of the ACT", b.first(0, 30, 11), 1);

        edge.sentence("19", "-2: there are none such.");
        edge.told("place", (x, v) -> x.first(v, 0, 0), 0, 3);
        edge.told("year", (x, v) -> x.first(0, v, 0), 0, 399);
        edge.told("known", (x, v) -> x.first(0, 0, v), 0, 399);
        edge.refusedBeside("place", 0, 3, -2, (x, v) -> x.first(v, 0, 0));
        edge.refusedBeside("year", 0, 399, -2, (x, v) -> x.first(0, v, 0));
        edge.refusedBeside("known", 0, 399, -2, (x, v) -> x.first(0, 0, v));
    }

    private void besideAsked() {
        edge.sentence("20", "The TONGUE BESIDE it likewise; NONE without one.");
        NameBoard b = Boards.FULL.get();
        edge.is("in 4", b.beside(0, 4, 12), 1);
        edge.is("in 5", b.beside(0, 5, 12), 0);
        edge.is("in 5 as known in 4", b.beside(0, 5, 4), 1);
        edge.is("without one", b.beside(2, 5, 12), NONE);
        edge.is("nobody", b.beside(3, 5, 12), NONE);

        edge.sentence("20", "-2 likewise.");
        edge.told("place", (x, v) -> x.beside(v, 0, 0), 0, 3);
        edge.told("year", (x, v) -> x.beside(0, v, 0), 0, 399);
        edge.told("known", (x, v) -> x.beside(0, 0, v), 0, 399);
        edge.refusedBeside("place", 0, 3, -2, (x, v) -> x.beside(v, 0, 0));
        edge.refusedBeside("year", 0, 399, -2, (x, v) -> x.beside(0, v, 0));
        edge.refusedBeside("known", 0, 399, -2, (x, v) -> x.beside(0, 0, v));
    }

    private void swings() {
        edge.sentence("21", "The fewest people of a PLACE that would have to be of another TONGUE (of one, moved to another one) "
                + "so that another one is FIRST NOW;");
        edge.is("1", of(5, 4, 0).swings(0), 1);
        edge.is("2000", all(2000, "first 0 if share 0=100; first 1;").swings(0), 2000);
        edge.is("1981", all(2000, "first 0 if share 1<1; first 1;").swings(0), 1981);
        edge.is("1", all(2000, "first 0 if share 1<100; first 1;").swings(0), 1);
        edge.is("the fewest of two ways", of(10, 7, 1).swings(0), 2);
        NameBoard b = of(10, 7, 1);
        Due.act(b, "first 2 if share 2>10; first 0;");
        edge.is("by another way than the most people", b.swings(0), 1);

        edge.sentence("21", "NONE: by none of these.");
        edge.is("nobody", of(0, 0, 0).swings(0), NONE);
        edge.is("an ACT that looks at no people", all(2000, "first 1;").swings(0), NONE);
        edge.is("an ACT that looks at all people", all(2000, "first 0 if people<2000; first 1;").swings(0), NONE);
        edge.is("no COUNTS", Boards.places(1).swings(0), NONE);

        edge.sentence("21", "-2: there is none such.");
        edge.told("place", (x, v) -> x.swings(v), 0, 3);
        edge.refusedBeside("place", 0, 3, -2, (x, v) -> x.swings(v));
    }

    /** So many people of TONGUE 1, and an ACT. */
    private static NameBoard all(int n, String act) {
        NameBoard b = of(0, n, 0);
        Due.act(b, act);
        return b;
    }
}
