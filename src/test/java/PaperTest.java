/** Promises 33 to 36: PAPERS, their WRITTEN names, and the PLACES to which these are JOINED. */
public final class PaperTest {
    private static final int NONE = NameBoard.NONE;
    private static final Due due = new Due();

    public static void main(String[] args) {
        paper();
        written();
        join();
        joinRefused();
        joinTies();
        joinAgain();
        joinByYear();
        joined();
        due.end();
    }

    private static void paper() {
        due.part("33 paper");
        NameBoard b = new NameBoard();
        due.is("paper(-1)", b.paper(-1), -2);
        due.is("paper(1)", b.paper(1), -2);
        due.is("paper(0)", b.paper(0), 0);
        b.next(7);
        due.is("paper(8)", b.paper(8), -2);
        due.is("paper(7)", b.paper(7), 0);
        Due.tape(b, "a").written();
        due.is("count(10)", b.count(10), 1);
        due.is("paper(8)", b.paper(8), -2);
        due.is("the one at hand stays", b.count(10), 1);
        due.is("paper(3)", b.paper(3), 0);
        due.is("no WRITTEN names yet", b.count(10), 0);
    }

    private static void written() {
        due.part("34 written");
        NameBoard b = new NameBoard();
        due.is("no PAPER", Due.tape(b, "abc").written(), -2);
        due.is("the TAPE stays", b.count(9), 3);
        b.paper(0);
        due.is("written", b.written(), 1);
        due.is("the TAPE is empty", b.count(9), 0);
        due.is("nothing", b.written(), -2);
        due.is("24 letters", Due.tape(b, "abcdefghijklmnopqrstuvwx").written(), 2);
        due.is("25 letters", Due.tape(b, "abcdefghijklmnopqrstuvwxy").written(), -2);
        due.is("the TAPE stays", b.count(9), 25);
        due.is("a blank", Due.tape(b, "a b").written(), -2);
        due.is("a digit", Due.tape(b, "a1").written(), -2);
        for (int i = 3; i <= 7; i++) {
            due.is("written " + i, Due.tape(b, "z").written(), i);
        }
        due.is("written 8", Due.tape(b, "z").written(), -3);
        due.is("the TAPE stays", b.count(9), 1);
        due.is("written 8, wrong", Due.tape(b, "").written(), -2);
        due.is("count(10)", b.count(10), 7);
        b.keep(0);
        b.paper(0);
        b.back(0);
        due.is("no IMAGE has it", b.count(10), 0);
    }

    private static NameBoard land(int miles, String... sounds) {
        NameBoard b = new NameBoard();
        for (int i = 0; i < sounds.length; i++) {
            b.place(i * miles, 0);
            if (!sounds[i].isEmpty()) {
                Due.name(b, sounds[i], i, i % 3);
            }
        }
        return b;
    }

    private static void joins(NameBoard b, int sum, String places, String... names) {
        b.paper(0);
        for (String name : names) {
            Due.tape(b, name).written();
        }
        due.is("join of " + String.join(" ", names), b.join(), sum);
        due.is("joined", places(b), places);
    }

    private static String places(NameBoard b) {
        StringBuilder text = new StringBuilder();
        for (int i = 0; b.joined(i) != NONE; i++) {
            text.append(i == 0 ? "" : " ").append(b.joined(i));
        }
        return text.toString();
    }

    private static void join() {
        due.part("35 join");
        joins(land(100, "ab", "cd", "ef"), 0, "");
        joins(land(100, "ab", "cd", "ef"), 20, "1", "cd");
        joins(land(100, "ab", "cd", "ef"), 60, "2 0 1", "ef", "ab", "cd");
        joins(land(100, "ab", "cd", "ef"), 38, "0 1", "ab", "ab");
        joins(land(100, "", "cd", "ef"), 40, "2 1", "ef", "cd");
        joins(land(30, "ab", "cd", "ef"), 43, "0 1", "ab", "cd");
        joins(land(30, "ab", "cd", "ef"), 41, "0 1", "ab", "ef");
        joins(land(30, "abab", "cdcd", "efef"), 40, "0 2", "abab", "efef");
        joins(land(31, "ab", "cd", "ef"), 40, "0 1", "ab", "cd");
        joins(land(30, "ab", "cd", "ef"), 66, "0 1 2", "ab", "cd", "ef");
        joins(land(30, "ab", "cd", "ef"), 63, "0 2 1", "ab", "ef", "cd");
        NameBoard near = new NameBoard();
        near.place(0, 0);
        near.place(18, 24);
        near.place(18, 25);
        Due.name(near, "aaa", 0, 0);
        Due.name(near, "bbb", 1, 0);
        Due.name(near, "bba", 2, 0);
        joins(near, 43, "0 1", "aaa", "bbb");
        joins(near, 42, "0 1", "aaa", "bba");
        NameBoard several = land(100, "kaa", "zzz");
        Due.name(several, "boo", 0, 1);
        Due.name(several, "booo", 1, 1);
        joins(several, 38, "1 0", "booo", "ba");
        joins(land(100, "a", "b"), 20 - 24 + 20 - 24, "0 1", "zzzzzzzzzzzzzzzzzzzzzzzz", "zzzzzzzzzzzzzzzzzzzzzzzz");
        joins(land(100, "a", "b", "c", "d", "e", "f", "g", "h", "i", "j"), 140, "9 8 7 6 5 4 3",
                "j", "i", "h", "g", "f", "e", "d");
        joins(land(10, "a", "b", "c", "d", "e", "f", "g", "h", "i", "j"), 158, "9 8 7 6 5 4 3",
                "j", "i", "h", "g", "f", "e", "d");
    }

    private static void joinRefused() {
        due.part("35 join, refused");
        NameBoard b = land(100, "ab", "", "cd");
        due.is("no PAPER", b.join(), NONE);
        b.paper(0);
        due.is("no names", b.join(), 0);
        Due.tape(b, "ab").written();
        Due.tape(b, "ab").written();
        due.is("two names, two PLACES", b.join(), 38);
        Due.tape(b, "ab").written();
        due.is("three names, two PLACES that have NAMES", b.join(), NONE);
        due.is("the latest that told a sum", places(b), "0 2");
        NameBoard ten = land(1, "a", "b", "c", "d", "e", "f", "g", "h", "i", "j", "");
        ten.paper(0);
        due.is("ten PLACES", ten.join(), 0);
        Due.name(ten, "x", 0, 0);
        due.is("another NAME of one of them", ten.join(), 0);
        Due.name(ten, "k", 10, 0);
        due.is("eleven PLACES", ten.join(), NONE);
    }

    private static void joinTies() {
        due.part("35 the first by PLACES");
        joins(land(100, "a", "a", "a"), 40, "0 1", "a", "a");
        joins(land(100, "ab", "ac", "ad"), 57, "0 1 2", "ax", "ax", "ax");
        joins(land(20, "a", "a", "a"), 66, "0 1 2", "a", "a", "a");
        joins(land(100, "abc", "abd"), 39, "0 1", "abd", "abd");
        joins(land(100, "abc", "abd"), 40, "1 0", "abd", "abc");
        NameBoard b = new NameBoard();
        b.place(0, 0);
        b.place(500, 0);
        b.place(500, 1);
        for (int i = 0; i < 3; i++) {
            Due.name(b, "a", i, 0);
        }
        joins(b, 43, "1 2", "a", "a");
    }

    /** What one join() worked out is not left in the next one. */
    private static void joinAgain() {
        due.part("35 once more");
        NameBoard b = land(30, "ab", "cd", "ef", "gh");
        joins(b, 89, "3 2 1 0", "gh", "ef", "cd", "ab");
        joins(b, 20, "2", "ef");
        joins(b, 40, "1 0", "efe", "ab");
        joins(b, 66, "0 1 2", "ab", "cd", "ef");
        joins(b, 43, "1 2", "cd", "ef");
    }

    private static void joinByYear() {
        due.part("35 by the PAPER's YEAR");
        NameBoard b = land(100, "kala", "cala");
        b.next(10);
        Due.spelling(b, 0, "k>c;");
        Due.spelling(b, 1, "c>k;");
        b.paper(9);
        Due.tape(b, "cala").written();
        due.is("ahead of them", b.join(), 20);
        due.is("joined", b.joined(0), 1);
        b.paper(10);
        Due.tape(b, "cala").written();
        due.is("from them on", b.join(), 20);
        due.is("joined", b.joined(0), 0);
    }

    private static void joined() {
        due.part("36 joined");
        NameBoard b = land(100, "ab", "cd");
        due.is("ahead of any", b.joined(0), NONE);
        joins(b, 40, "1 0", "cd", "ab");
        due.is("joined(2)", b.joined(2), NONE);
        due.is("joined(-1)", b.joined(-1), NONE);
        due.is("joined(MAX)", b.joined(Integer.MAX_VALUE), NONE);
        b.paper(0);
        due.is("another PAPER, not JOINED yet", places(b), "1 0");
        b.keep(0);
        due.is("join()", b.join(), 0);
        due.is("no names", places(b), "");
    }
}
