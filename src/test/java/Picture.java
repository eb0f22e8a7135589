import java.util.TreeSet;

/**
 * What calls can see of a board, as one text. Not looked at: the numbers of SLOT 3, bytes of the TAPE behind the first 12
 * (or any that are no letters), and numbers of SLOTS when 200 COUNTS are kept; WRITTEN names and votes are seen only by
 * what they lead to. Looking uses the board up (HEARINGS are closed, rows are pasted, IMAGES gone back to), and takes
 * more than 512 calls: this class answers these like the others.
 */
final class Picture {
    private static final int NONE = NameBoard.NONE;
    /** The SLOT that is used to look at the others: its own numbers are not looked at. */
    private static final int GLASS = 3;

    private final NameBoard b;
    private final StringBuilder text = new StringBuilder();

    private Picture(NameBoard board) {
        b = board;
    }

    static String of(NameBoard board) {
        Picture picture = new Picture(board);
        picture.found();
        picture.counts();
        picture.paper();
        picture.told();
        picture.tape();
        picture.slots();
        picture.images();
        return picture.text.toString();
    }

    /** What an IMAGE keeps, alone. */
    static String told(NameBoard board) {
        Picture picture = new Picture(board);
        picture.told();
        return picture.text.toString();
    }

    private void add(String what, Object seen) {
        text.append(what).append(' ').append(seen).append('\n');
    }

    private void found() {
        add("in hand", Due.inHand(b) + "|" + Due.leads(b));
        add("fault", b.fault(0) + " at " + b.fault(1));
        StringBuilder plan = new StringBuilder();
        for (int sign = 0; sign < 40; sign++) {
            plan.append(b.planned(sign)).append(' ');
        }
        add("plan", plan);
        add("joined", joined());
    }

    private String joined() {
        StringBuilder places = new StringBuilder();
        for (int i = 0; i < 7; i++) {
            places.append(b.joined(i)).append(' ');
        }
        return places.toString();
    }

    private void counts() {
        for (int what = 0; what <= 12; what++) {
            add("count " + what, b.count(what));
        }
    }

    private void paper() {
        add("join", b.join());
        add("joined", joined());
    }

    private TreeSet<Integer> years() {
        TreeSet<Integer> years = new TreeSet<>();
        int now = b.count(0);
        for (int year = 0; year <= Math.min(now + 1, 16); year++) {
            years.add(year);
        }
        years.add(Math.max(0, now - 1));
        years.add(now);
        years.add(Math.min(399, now + 1));
        years.add(399);
        return years;
    }

    private void told() {
        for (int what = 0; what <= 8; what++) {
            add("count " + what, b.count(what));
        }
        add("settled names", b.count(11));
        for (int year : years()) {
            places(year);
            names(year);
        }
        for (int place = 0; place < b.count(1); place++) {
            add("swings " + place, b.swings(place));
        }
        signs();
        hearings();
    }

    private void places(int year) {
        for (int place = 0; place < b.count(1); place++) {
            for (int known : new int[] {year, 399, b.count(0) / 2}) {
                String of = place + " in " + year + " by " + known;
                add("live " + of, b.live(place, 0, year, known) + " " + b.live(place, 1, year, known) + " "
                        + b.live(place, 2, year, known));
                add("first " + of, b.first(place, year, known) + " " + b.beside(place, year, known));
                add("settled " + of, b.settled(place, 0, year, known) + " " + b.settled(place, 1, year, known) + " "
                        + b.settled(place, 2, year, known));
                add("shown " + of, b.shown(place, year, known) + Due.inHand(b) + "|" + Due.leads(b));
            }
        }
    }

    private void names(int year) {
        add("alikes " + year, b.alikes(year));
        for (int name = 0; name < b.count(2); name++) {
            add("spell " + name + " in " + year, b.spell(name, year) + Due.inHand(b) + "|" + Due.leads(b));
            add("edits " + name + " in " + year, b.edits(0, name, year));
        }
    }

    private void signs() {
        for (int sign = 0; sign < b.count(7); sign++) {
            for (int what = 0; what <= 5; what++) {
                add("sign " + sign + " what " + what, b.signOf(sign, what));
            }
        }
        add("plan", b.plan(9999));
    }

    private void hearings() {
        for (int name = 0; name < b.count(2); name++) {
            add("ask " + name, b.ask(name));
        }
        for (int hearing = 0; hearing < b.count(5); hearing++) {
            add("close " + hearing, b.close(hearing));
        }
        int now = b.count(0);
        for (int place = 0; place < b.count(1); place++) {
            for (int tongue = 0; tongue < 3; tongue++) {
                add("settled " + place + " " + tongue, b.settled(place, tongue, now, now));
            }
        }
        for (int name = 0; name < b.count(2); name++) {
            add("put to the board " + name, Due.settle(b, name));
        }
    }

    /** The TAPE's first letters, if it is a SOUND as far as that. */
    private void tape() {
        int size = b.count(9);
        add("tape", size);
        b.end(Math.min(size, 12));
        int name = b.name(0, 2, NONE);
        add("as a name", name);
        if (name >= 0) {
            add("of letters", b.spell(name, 399) + Due.inHand(b));
        }
    }

    private void slots() {
        for (int slot = 0; slot < 4; slot++) {
            add("slot " + slot, b.write(slot, -1, 0));
        }
        for (int slot = 0; slot < GLASS; slot++) {
            int length = length(slot);
            int width = width(slot);
            add("slot " + slot, length + " of " + width);
            for (int i = 0; i < length; i++) {
                add("number " + i, number(slot, width, i));
            }
        }
    }

    private int length(int slot) {
        int length = NONE;
        for (int n = 0; n <= 60 && b.paste(slot, 0, slot, 0, n) == 0; n++) {
            length = n;
        }
        return length;
    }

    private int width(int slot) {
        for (int width = 0; width < 4; width++) {
            b.row(GLASS, width, 0);
            if (b.paste(slot, 0, GLASS, 0, 0) == 0) {
                return width;
            }
        }
        return NONE;
    }

    /** A number is seen as the people of PLACE 0. */
    private int number(int slot, int width, int i) {
        b.row(GLASS, width, 3);
        b.paste(slot, i, GLASS, 2, 1);
        int came = b.counted(GLASS);
        int now = b.count(0);
        return came == 1 ? b.live(0, 0, now, now) : -came - 1;
    }

    private void images() {
        for (int k = 0; k < 3; k++) {
            int back = b.back(k);
            add("back " + k, back);
            if (back == 0) {
                told();
            }
        }
    }
}
