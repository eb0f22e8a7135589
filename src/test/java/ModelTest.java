import java.util.Random;

/**
 * Many runs of calls drawn by a fixed seed, on the class and on the Model: each answer must be the same.
 * The draws lean to what makes a full life: few PLACES, texts that mostly hold, HEARINGS that mostly settle.
 */
public final class ModelTest {
    private static final int RUNS = 700;
    private static final int CALLS = 480;

    private final Random random;
    private final NameBoard board = new NameBoard();
    private final Model model = new Model();
    private final int[] weights;
    private final int places;
    /** How seldom an IMAGE is gone back to: often in some runs, so that rows are told otherwise, never in others. */
    private final int backs;
    /** At times there is as much of all as there may be. */
    private final boolean crowded;
    private final StringBuilder log = new StringBuilder();
    private int wrong;

    private ModelTest(long seed) {
        // Neighbouring seeds begin alike: far ones do not.
        random = new Random(seed * 0x9E3779B97F4A7C15L);
        crowded = random.nextInt(24) == 0;
        places = crowded ? 40 : 1 + random.nextInt(random.nextBoolean() ? 4 : 12);
        backs = 1 << random.nextInt(6);
        weights = new int[33];
        for (int i = 0; i < weights.length; i++) {
            weights[i] = 1 + random.nextInt(5);
        }
    }

    public static void main(String[] args) {
        int runs = args.length > 0 ? Integer.parseInt(args[0]) : RUNS;
        int wrong = 0;
        int calls = 0;
        for (int seed = 1; seed <= runs && wrong == 0; seed++) {
            ModelTest test = new ModelTest(seed);
            test.begin();
            for (int i = 0; i < CALLS && test.wrong == 0; i++) {
                test.call();
                calls++;
            }
            if (test.wrong != 0) {
                System.out.println("seed " + seed + ":\n" + test.log);
            }
            wrong += test.wrong;
        }
        System.out.println(runs + " runs, " + calls + " steps, " + wrong + " wrong");
        if (wrong != 0) {
            System.exit(1);
        }
    }

    private void same(String call, long got, long want) {
        log.append(call).append(" = ").append(got).append('\n');
        if (got != want) {
            wrong++;
            log.append("  due is ").append(want).append('\n');
        }
    }

    private int below(int n) {
        return random.nextInt(n);
    }

    /** Mostly 0 .. n - 1, at times a number beside them. */
    private int around(int n) {
        return below(12) == 0 ? below(Math.max(n, 0) + 4) - 2 : below(Math.max(n, 1));
    }

    private int year() {
        int now = model.count(0);
        return switch (below(8)) {
            case 0 -> below(404) - 2;
            case 1, 2, 3 -> now;
            case 4 -> Math.max(0, now - 1);
            default -> below(now + 1);
        };
    }

    private String letters(int most) {
        StringBuilder s = new StringBuilder();
        int n = 1 + below(most);
        for (int i = 0; i < n; i++) {
            s.append((char) ('a' + below(below(4) == 0 ? 5 : 3)));
        }
        return s.toString();
    }

    private String set() {
        return below(3) == 0 ? "#" : letters(below(20) == 0 ? 28 : 3);
    }

    private String rules() {
        StringBuilder s = new StringBuilder();
        int n = below(12) == 0 ? 15 + below(4) : below(5);
        for (int i = 0; i < n; i++) {
            if (below(4) == 0) {
                s.append("after ").append(set()).append(' ');
            }
            s.append(letters(n > 10 ? 1 : below(40) == 0 ? 4 : below(2) + 1)).append('>');
            s.append(below(5) == 0 ? "-" : letters(n > 10 ? 1 : 3));
            if (below(4) == 0) {
                s.append(" before ").append(set());
            }
            s.append(below(3) == 0 ? " ; " : ";");
        }
        return spoil(s);
    }

    private String cond() {
        String sign = below(3) == 0 ? "=" : below(2) == 0 ? "<" : ">";
        String not = below(4) == 0 ? "not " : "";
        return not + switch (below(6)) {
            case 0, 1, 2 -> "share " + below(3) + sign + below(110);
            case 3 -> "people" + sign + below(40);
            case 4 -> "parts " + sign + below(3);
            default -> "year " + sign + " " + below(400);
        };
    }

    private String conds() {
        StringBuilder s = new StringBuilder();
        int n = below(3) == 0 ? 0 : below(15) == 0 ? 3 + below(3) : 1 + below(2);
        for (int i = 0; i < n; i++) {
            s.append(i == 0 ? " if " : " and ").append(cond());
        }
        return s.toString();
    }

    private String lines() {
        StringBuilder s = new StringBuilder();
        int n = below(15) == 0 ? 11 + below(4) : below(6);
        for (int i = 0; i < n; i++) {
            s.append(switch (n > 10 ? 3 + below(5) : below(8)) {
                case 0 -> "first " + (below(40) == 0 ? 3 : below(3)) + conds();
                case 1 -> "both" + conds();
                case 2 -> "both";
                case 3 -> "far " + below(80) + " apart " + below(3);
                case 4 -> "dead " + below(30);
                case 5 -> "sign " + below(20);
                case 6 -> "votes " + (below(20) == 0 ? 9998 + below(4) : below(101));
                default -> "first " + below(3) + " if " + cond();
            }).append(below(4) == 0 ? " ;\n" : ";");
        }
        return spoil(s);
    }

    /** At times a byte is put in, taken out or changed, or the text ends early. */
    private String spoil(StringBuilder s) {
        String bytes = "ab09 \n>;#-<=.A\0\u00ff";
        if (below(6) == 0 && s.length() > 0) {
            int at = below(s.length());
            char c = bytes.charAt(below(bytes.length()));
            switch (below(4)) {
                case 0 -> s.insert(at, c);
                case 1 -> s.deleteCharAt(at);
                case 2 -> s.setCharAt(at, c);
                default -> s.setLength(at);
            }
        }
        return s.length() > 500 ? s.substring(0, 500) : s.toString();
    }

    private void tape(String text) {
        log.append("tape '").append(text.replace("\n", "\\n")).append("'\n");
        same("end(0)", board.end(0), model.end(0));
        for (int i = 0; i < text.length(); i += 20) {
            int[] n = new int[5];
            for (int k = 0; k < 20; k++) {
                n[k / 4] = n[k / 4] << 8 | (i + k < text.length() ? text.charAt(i + k) : 120);
            }
            same("feed", board.feed(n[0], n[1], n[2], n[3], n[4]), model.feed(n[0], n[1], n[2], n[3], n[4]));
        }
        same("end", board.end(text.length()), model.end(text.length()));
    }

    private void begin() {
        for (int i = 0; i < places; i++) {
            int x = below(100);
            int y = below(60);
            same("place", board.place(x, y), model.place(x, y));
        }
        if (crowded) {
            crowd();
        }
    }

    /** Fills each sort of thing up to its limit and a little beyond; the NAMES of some boards are of ten PLACES. */
    private void crowd() {
        int named = random.nextBoolean() ? 10 : places;
        for (int i = 0; i < 82; i++) {
            int p = below(named);
            int t = below(3);
            tape(letters(12));
            same("name(" + p + ", " + t + ", -1)", board.name(p, t, -1), model.name(p, t, -1));
        }
        for (int i = 0; i < 210 && wrong == 0; i++) {
            int p = below(places);
            int t = below(3);
            int n = below(20);
            same("people(" + p + ", " + t + ", " + n + ")", board.people(p, t, n), model.people(p, t, n));
            if (i % 10 == 0) {
                tell(0);
                tell(1);
                tell(6);
                tell(7);
            }
        }
        for (int i = 0; i < 70 && wrong == 0; i++) {
            int name = i % 80;
            same("ask(" + name + ")", board.ask(name), model.ask(name));
            same("vote(" + i + ", 0, true)", board.vote(i, 0, true), model.vote(i, 0, true));
            same("close(" + i + ")", board.close(i), model.close(i));
        }
        for (int i = 0; i < 42; i++) {
            int p = i % 5 == 0 ? 0 : below(places);
            same("sign(" + p + ", " + i + ")", board.sign(p, i), model.sign(p, i));
        }
    }

    private void call() {
        int sum = 0;
        for (int w : weights) {
            sum += w;
        }
        int draw = below(sum);
        int what = 0;
        while (draw >= weights[what]) {
            draw -= weights[what];
            what++;
        }
        if (what < 11) {
            tell(what);
        } else if (what < 23) {
            ask(what - 11);
        } else {
            rest(what - 23);
        }
    }

    private void tell(int what) {
        int p = around(places);
        int t = around(3);
        switch (what) {
            case 0 -> {
                int years = below(20) == 0 ? below(450) - 20 : below(5) == 0 ? below(30) : below(3);
                same("next(" + years + ")", board.next(years), model.next(years));
            }
            case 1 -> {
                int of = below(4) == 0 ? -1 : around(places);
                same("part(" + p + ", " + of + ")", board.part(p, of), model.part(p, of));
            }
            case 2, 3 -> {
                int n = below(10) == 0 ? below(2100) - 50 : below(20);
                same("people(" + p + ", " + t + ", " + n + ")", board.people(p, t, n), model.people(p, t, n));
            }
            case 4, 5 -> {
                int died = below(3) > 0 ? -1 : below(3) == 0 ? -9 : below(2) == 0 ? below(model.count(0) + 1) : below(12) - 11;
                tape(letters(below(20) == 0 ? 14 : 4));
                same("name(" + p + ", " + t + ", " + died + ")", board.name(p, t, died), model.name(p, t, died));
            }
            case 6 -> {
                if (below(3) == 0) {
                    tape(rules());
                    same("spelling(" + t + ")", board.spelling(t), model.spelling(t));
                    faults();
                }
            }
            case 7 -> {
                if (below(3) == 0) {
                    tape(lines());
                    same("act()", board.act(), model.act());
                    faults();
                }
            }
            case 8, 9 -> hearing();
            default -> same("undo(" + p + ", " + t + ")", board.undo(p, t), model.undo(p, t));
        }
    }

    private void faults() {
        for (int i = -1; i < 3; i++) {
            same("fault(" + i + ")", board.fault(i), model.fault(i));
        }
    }

    private void hearing() {
        int name = around(model.count(2));
        same("ask(" + name + ")", board.ask(name), model.ask(name));
        int hearing = below(10) == 0 ? around(model.count(5)) : model.count(5) - 1;
        int votes = below(5);
        for (int i = 0; i < votes; i++) {
            int member = around(9);
            boolean is = below(4) > 0;
            same("vote(" + hearing + ", " + member + ", " + is + ")",
                    board.vote(hearing, member, is), model.vote(hearing, member, is));
        }
        if (below(5) > 0) {
            same("close(" + hearing + ")", board.close(hearing), model.close(hearing));
        }
    }

    private void inHand() {
        for (int i = -1; i < 75; i++) {
            same("letter(" + i + ")", board.letter(i), model.letter(i));
            same("led(" + i + ")", board.led(i), model.led(i));
        }
    }

    private void ask(int what) {
        int p = around(places);
        int t = around(3);
        int y = year();
        int k = year();
        String ask = "(" + p + ", " + y + ", " + k + ")";
        int one = around(model.count(2));
        int other = around(model.count(2));
        switch (what) {
            case 0 -> same("live t " + t + ask, board.live(p, t, y, k), model.live(p, t, y, k));
            case 1 -> same("live" + ask, board.live(p, -1, y, k), model.live(p, -1, y, k));
            case 2 -> same("first" + ask, board.first(p, y, k), model.first(p, y, k));
            case 3 -> same("beside" + ask, board.beside(p, y, k), model.beside(p, y, k));
            case 4 -> same("swings(" + p + ")", board.swings(p), model.swings(p));
            case 5 -> same("settled t " + t + ask, board.settled(p, t, y, k), model.settled(p, t, y, k));
            case 6, 7 -> {
                same("shown" + ask, board.shown(p, y, k), model.shown(p, y, k));
                inHand();
            }
            case 8 -> {
                same("spell(" + one + ", " + y + ")", board.spell(one, y), model.spell(one, y));
                inHand();
            }
            case 9 -> same("alikes(" + y + ")", board.alikes(y), model.alikes(y));
            default -> same("edits(" + one + ", " + other + ", " + y + ")",
                    board.edits(one, other, y), model.edits(one, other, y));
        }
    }

    private void rest(int what) {
        switch (what) {
            case 0 -> {
                int p = around(places);
                int cost = below(15) == 0 ? below(10100) - 50 : below(10);
                same("sign(" + p + ", " + cost + ")", board.sign(p, cost), model.sign(p, cost));
            }
            case 1, 2, 3 -> {
                int s = around(model.count(7));
                int w = around(6);
                same("signOf(" + s + ", " + w + ")", board.signOf(s, w), model.signOf(s, w));
            }
            case 4 -> {
                int s = around(model.count(7));
                if (below(2) == 0) {
                    same("anew(" + s + ")", board.anew(s), model.anew(s));
                }
            }
            case 5 -> plan();
            case 6 -> paper();
            case 7 -> image();
            case 8 -> slots();
            default -> {
                for (int i = -1; i < 14; i++) {
                    same("count(" + i + ")", board.count(i), model.count(i));
                }
            }
        }
    }

    private void plan() {
        int coin = below(20) == 0 ? below(10100) - 50 : 5 + below(15);
        same("plan(" + coin + ")", board.plan(coin), model.plan(coin));
        for (int i = -1; i < 42; i++) {
            same("planned(" + i + ")", board.planned(i), model.planned(i));
        }
    }

    private void paper() {
        if (below(3) == 0) {
            int y = year();
            same("paper(" + y + ")", board.paper(y), model.paper(y));
        }
        int n = below(3);
        for (int i = 0; i < n; i++) {
            tape(letters(below(20) == 0 ? 26 : 5));
            same("written()", board.written(), model.written());
        }
        if (places < 8 || model.count(10) < 6) {
            same("join()", board.join(), model.join());
        }
        for (int i = -1; i < 9; i++) {
            same("joined(" + i + ")", board.joined(i), model.joined(i));
        }
    }

    private void image() {
        int k = around(3);
        if (below(3) == 0) {
            same("keep(" + k + ")", board.keep(k), model.keep(k));
        } else if (below(backs) == 0) {
            same("back(" + k + ")", board.back(k), model.back(k));
        }
    }

    private void slots() {
        int s = around(4);
        int to = around(4);
        int w = around(4);
        int n = below(4) == 0 ? below(70) - 5 : below(13);
        int i = around(n);
        int k = around(n);
        switch (below(8)) {
            case 0, 1 -> same("row(" + s + ", " + w + ", " + n + ")", board.row(s, w, n), model.row(s, w, n));
            case 2 -> same("tear(" + s + ")", board.tear(s) ? 1 : 0, model.tear(s) ? 1 : 0);
            case 3, 4 -> {
                long v = below(6) == 0 ? random.nextLong() : below(3);
                same("write(" + s + ", " + i + ", " + v + ")", board.write(s, i, v), model.write(s, i, v));
            }
            case 5, 6 -> {
                int m = around(4);
                same("paste(" + s + ", " + i + ", " + to + ", " + k + ", " + m + ")",
                        board.paste(s, i, to, k, m), model.paste(s, i, to, k, m));
            }
            default -> same("counted(" + s + ")", board.counted(s), model.counted(s));
        }
    }
}
