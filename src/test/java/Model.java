import java.util.ArrayList;
import java.util.Arrays;
import java.util.HashMap;
import java.util.LinkedHashSet;
import java.util.List;
import java.util.Map;
import java.util.Set;
import java.util.TreeSet;

/**
 * The document once more, told as plainly as the Java library lets it be, with no care for speed or room:
 * lists of what was told, gone through from the start at each question. ModelTest holds the class against it.
 */
final class Model {
    record Told(int year, int place, int of) { }
    record Counted(int year, int place, int tongue, int n) { }
    record Name(int place, int tongue, String sound, int died) { }
    record Rule(String after, String from, String to, String before) { }
    record Spelling(int year, int tongue, List<Rule> rules) { }
    record Cond(boolean not, String word, int tongue, char sign, int n) { }
    record Line(String kind, int n, int m, List<Cond> conds) { }
    record Act(int year, List<Line> lines) { }
    record Hearing(int name, boolean open, Map<Integer, Boolean> votes) { }
    record Settling(int year, int name, int undone) { }
    record Sign(int place, int cost, int made) { }

    /** All that an IMAGE keeps: of unchanging records, so that a copy of the lists is enough. */
    static final class All {
        int now;
        List<int[]> places = new ArrayList<>();
        List<Told> parts = new ArrayList<>();
        List<Counted> counts = new ArrayList<>();
        List<Name> names = new ArrayList<>();
        List<Spelling> spellings = new ArrayList<>();
        List<Act> acts = new ArrayList<>();
        List<Hearing> hearings = new ArrayList<>();
        List<Settling> settlings = new ArrayList<>();
        List<Sign> signs = new ArrayList<>();

        All copy() {
            All a = new All();
            a.now = now;
            a.places = new ArrayList<>(places);
            a.parts = new ArrayList<>(parts);
            a.counts = new ArrayList<>(counts);
            a.names = new ArrayList<>(names);
            a.spellings = new ArrayList<>(spellings);
            a.acts = new ArrayList<>(acts);
            a.hearings = new ArrayList<>(hearings);
            a.settlings = new ArrayList<>(settlings);
            a.signs = new ArrayList<>(signs);
            return a;
        }
    }

    private static final class Faulty extends Exception {
        private static final long serialVersionUID = 1;
        final int what;
        final int at;

        Faulty(int what, int at) {
            this.what = what;
            this.at = at;
        }
    }

    private All all = new All();
    private final All[] images = new All[3];
    private List<Integer> tape = new ArrayList<>();
    private int fault;
    private int faultAt = -1;
    private String hand = "";
    private List<Integer> leads = new ArrayList<>();
    private Map<Integer, Integer> plan = new HashMap<>();
    private int paperYear = -1;
    private List<String> paper = new ArrayList<>();
    private List<Integer> joined = new ArrayList<>();
    private final Object[] rows = new Object[4];

    int feed(int a, int b, int c, int d, int e) {
        if (tape.size() > 480) {
            return -1;
        }
        for (int n : new int[] {a, b, c, d, e}) {
            for (int k = 3; k >= 0; k--) {
                tape.add(n >> 8 * k & 255);
            }
        }
        return tape.size();
    }

    int end(int n) {
        if (n < 0 || n > tape.size()) {
            return -1;
        }
        tape = new ArrayList<>(tape.subList(0, n));
        return n;
    }

    int next(int years) {
        if (years < 0 || years > 399 - all.now) {
            return -1;
        }
        return all.now += years;
    }

    int place(int x, int y) {
        if (x < 0 || y < 0 || x > 999 || y > 999) {
            return -2;
        }
        if (all.places.size() == 40) {
            return -3;
        }
        all.places.add(new int[] {x, y});
        return all.places.size() - 1;
    }

    private boolean isPlace(int p) {
        return p >= 0 && p < all.places.size();
    }

    private static boolean isYear(int y) {
        return y >= 0 && y <= 399;
    }

    private static boolean isTongue(int t) {
        return t >= 0 && t <= 2;
    }

    private int partOf(int place, int year, int known) {
        int of = -1;
        for (Told t : all.parts) {
            if (t.place == place && t.year <= year && t.year <= known) {
                of = t.of;
            }
        }
        return of;
    }

    private Set<Integer> within(int place, int year, int known) {
        Set<Integer> in = new TreeSet<>();
        in.add(place);
        for (boolean more = true; more;) {
            more = false;
            for (int p = 0; p < all.places.size(); p++) {
                more |= in.contains(partOf(p, year, known)) && in.add(p);
            }
        }
        return in;
    }

    int part(int place, int of) {
        if (!isPlace(place) || of != -1 && !isPlace(of) || place == of) {
            return -2;
        }
        if (within(place, all.now, all.now).contains(of)) {
            return -5;
        }
        all.parts.add(new Told(all.now, place, of));
        return 0;
    }

    int people(int place, int tongue, int n) {
        if (!isPlace(place) || !isTongue(tongue) || n < 0 || n > 2000) {
            return -2;
        }
        List<Counted> others = new ArrayList<>(all.counts);
        others.removeIf(c -> c.year == all.now && c.place == place && c.tongue == tongue);
        if (others.size() == 200) {
            return -3;
        }
        others.add(new Counted(all.now, place, tongue, n));
        all.counts = others;
        return 0;
    }

    int counted(int slot) {
        if (slot < 0 || slot > 3) {
            return -2;
        }
        if (rows[slot] == null) {
            return -6;
        }
        int came = 0;
        for (int i = 0; i + 3 <= java.lang.reflect.Array.getLength(rows[slot]); i += 3) {
            long[] n = new long[3];
            for (int k = 0; k < 3; k++) {
                n[k] = java.lang.reflect.Array.getLong(rows[slot], i + k);
            }
            if (n[0] != (int) n[0] || n[1] != (int) n[1] || n[2] != (int) n[2]
                    || people((int) n[0], (int) n[1], (int) n[2]) != 0) {
                break;
            }
            came++;
        }
        return came;
    }

    private int own(int place, int tongue, int year, int known) {
        int n = 0;
        int latest = -1;
        for (Counted c : all.counts) {
            if (c.place == place && c.tongue == tongue && c.year <= year && c.year <= known && c.year >= latest) {
                latest = c.year;
                n = c.n;
            }
        }
        return n;
    }

    private int[] lives(int place, int year, int known) {
        int[] n = new int[3];
        for (int p : within(place, year, known)) {
            for (int t = 0; t < 3; t++) {
                n[t] += own(p, t, year, known);
            }
        }
        return n;
    }

    int live(int place, int tongue, int year, int known) {
        if (!isPlace(place) || tongue != -1 && !isTongue(tongue) || !isYear(year) || !isYear(known)) {
            return -2;
        }
        int[] n = lives(place, year, known);
        return tongue == -1 ? n[0] + n[1] + n[2] : n[tongue];
    }

    private String text() {
        StringBuilder s = new StringBuilder();
        tape.forEach(b -> s.append((char) (int) b));
        return s.toString();
    }

    int name(int place, int tongue, int died) {
        boolean ok = died == -1 || died == -9 || died >= 0 && died <= all.now;
        if (!ok || !isPlace(place) || !isTongue(tongue) || !text().matches("[a-z]{1,12}")) {
            return -2;
        }
        if (all.names.size() == 80) {
            return -3;
        }
        all.names.add(new Name(place, tongue, text(), died));
        tape.clear();
        return all.names.size() - 1;
    }

    // ---- texts: the TOKENS as a list, the end as an empty one ----

    private List<String> tokens;
    private List<Integer> starts;
    private int at;

    private void cutTokens() {
        tokens = new ArrayList<>();
        starts = new ArrayList<>();
        at = 0;
        java.util.regex.Matcher m = java.util.regex.Pattern.compile("[ \n]+|([a-z]+|[0-9]+|[\\x00-\\xff])").matcher(text());
        while (m.find()) {
            if (m.group(1) != null) {
                tokens.add(m.group(1));
                starts.add(m.start());
            }
        }
        tokens.add("");
        starts.add(tape.size());
    }

    private Faulty faulty(int what) {
        return new Faulty(what, starts.get(at));
    }

    private String take(String pattern) throws Faulty {
        if (!tokens.get(at).matches(pattern)) {
            throw faulty(1);
        }
        return tokens.get(at++);
    }

    private boolean sees(String pattern) {
        return tokens.get(at).matches(pattern);
    }

    private int takeNumber(int most) throws Faulty {
        if (!sees("[0-9]+")) {
            throw faulty(1);
        }
        if (new java.math.BigInteger(tokens.get(at)).compareTo(java.math.BigInteger.valueOf(most)) > 0) {
            throw faulty(2);
        }
        return Integer.parseInt(tokens.get(at++));
    }

    private static final String SET = "(?!after$|before$)[a-z]{1,26}|#";
    private static final String WORD = "[a-z]{1,3}";

    private List<Rule> rules() throws Faulty {
        List<Rule> read = new ArrayList<>();
        while (!sees("")) {
            if (!sees("after|" + WORD)) {
                throw faulty(1);
            }
            if (read.size() == 16) {
                throw faulty(3);
            }
            String after = null;
            String before = null;
            if (sees("after")) {
                at++;
                after = take(SET);
            }
            String from = take(WORD);
            take(">");
            String to = take(WORD + "|-");
            if (sees("before")) {
                at++;
                before = take(SET);
            }
            take(";");
            read.add(new Rule(after, from, to.equals("-") ? "" : to, before));
        }
        return read;
    }

    private List<Line> lines() throws Faulty {
        List<Line> read = new ArrayList<>();
        while (!sees("")) {
            if (!sees("first|both|far|dead|sign|votes")) {
                throw faulty(1);
            }
            if (read.size() == 12) {
                throw faulty(3);
            }
            String kind = tokens.get(at++);
            int n = kind.equals("both") ? 0 : takeNumber(kind.equals("first") ? 2 : 9999);
            int m = 0;
            if (kind.equals("far")) {
                take("apart");
                m = takeNumber(9999);
            }
            List<Cond> conds = new ArrayList<>();
            if (kind.matches("first|both") && sees("if")) {
                do {
                    at++;
                    conds.add(cond(conds.size()));
                } while (sees("and"));
            }
            take(";");
            read.add(new Line(kind, n, m, conds));
        }
        return read;
    }

    private Cond cond(int ahead) throws Faulty {
        if (!sees("not|share|people|parts|year")) {
            throw faulty(1);
        }
        if (ahead == 4) {
            throw faulty(3);
        }
        boolean not = sees("not");
        if (not) {
            at++;
        }
        String word = take("share|people|parts|year");
        int tongue = word.equals("share") ? takeNumber(2) : -1;
        char sign = take("[<=>]").charAt(0);
        return new Cond(not, word, tongue, sign, takeNumber(9999));
    }

    int spelling(int tongue) {
        if (!isTongue(tongue)) {
            return -2;
        }
        if (all.spellings.size() == 12) {
            return -3;
        }
        cutTokens();
        try {
            List<Rule> read = rules();
            all.spellings.add(new Spelling(all.now, tongue, read));
            return found(null, read.size());
        } catch (Faulty f) {
            return found(f, -4);
        }
    }

    int act() {
        if (all.acts.size() == 8) {
            return -3;
        }
        cutTokens();
        try {
            List<Line> read = lines();
            all.acts.add(new Act(all.now, read));
            return found(null, read.size());
        } catch (Faulty f) {
            return found(f, -4);
        }
    }

    private int found(Faulty f, int answer) {
        fault = f == null ? 0 : f.what;
        faultAt = f == null ? -1 : f.at;
        tape.clear();
        return answer;
    }

    int fault(int what) {
        return what == 0 ? fault : what == 1 ? faultAt : -1;
    }

    // ---- SPELLED ----

    private static boolean has(String set, String letter) {
        return set == null || (letter.isEmpty() ? set.equals("#") : set.contains(letter));
    }

    private String spelled(int name, int year, int known, List<Integer> led) {
        Name n = all.names.get(name);
        int by = -1;
        for (int i = 0; i < all.spellings.size(); i++) {
            Spelling s = all.spellings.get(i);
            if (s.tongue == n.tongue && s.year <= year && s.year <= known) {
                by = i;
            }
        }
        StringBuilder out = new StringBuilder();
        String left = "";
        String right = n.sound;
        while (!right.isEmpty()) {
            int hit = -1;
            for (int r = 0; by >= 0 && hit < 0 && r < all.spellings.get(by).rules.size(); r++) {
                Rule rule = all.spellings.get(by).rules.get(r);
                if (right.startsWith(rule.from)) {
                    String rest = right.substring(rule.from.length());
                    String ahead = left.isEmpty() ? "" : left.substring(left.length() - 1);
                    if (has(rule.after, ahead) && has(rule.before, rest.isEmpty() ? "" : rest.substring(0, 1))) {
                        hit = r;
                    }
                }
            }
            String wrote = hit < 0 ? right.substring(0, 1) : all.spellings.get(by).rules.get(hit).to;
            int gone = hit < 0 ? 1 : all.spellings.get(by).rules.get(hit).from.length();
            for (int i = 0; i < wrote.length(); i++) {
                led.add(hit < 0 ? -3 : 100 * by + hit);
            }
            out.append(wrote);
            left = left + right.substring(0, gone);
            right = right.substring(gone);
        }
        return out.toString();
    }

    private String spelled(int name, int year) {
        return spelled(name, year, all.now, new ArrayList<>());
    }

    private boolean isName(int name) {
        return name >= 0 && name < all.names.size();
    }

    int spell(int name, int year) {
        if (!isName(name) || !isYear(year)) {
            return -2;
        }
        leads = new ArrayList<>();
        hand = spelled(name, year, all.now, leads);
        return hand.length();
    }

    int letter(int i) {
        return i >= 0 && i < hand.length() ? hand.charAt(i) : -1;
    }

    int led(int i) {
        return i >= 0 && i < leads.size() ? leads.get(i) : -1;
    }

    int alikes(int year) {
        if (!isYear(year)) {
            return -2;
        }
        int n = 0;
        for (int i = 0; i < all.names.size(); i++) {
            for (int j = 0; j < i; j++) {
                if (all.names.get(i).place != all.names.get(j).place && spelled(i, year).equals(spelled(j, year))) {
                    n++;
                }
            }
        }
        return n;
    }

    private static int distance(String a, String b) {
        int[][] d = new int[a.length() + 1][b.length() + 1];
        for (int i = 0; i <= a.length(); i++) {
            for (int j = 0; j <= b.length(); j++) {
                if (i == 0 || j == 0) {
                    d[i][j] = i + j;
                } else {
                    int same = a.charAt(i - 1) == b.charAt(j - 1) ? 0 : 1;
                    d[i][j] = Math.min(d[i - 1][j - 1] + same, Math.min(d[i - 1][j], d[i][j - 1]) + 1);
                }
            }
        }
        return d[a.length()][b.length()];
    }

    int edits(int one, int other, int year) {
        if (!isName(one) || !isName(other) || !isYear(year)) {
            return -2;
        }
        return distance(spelled(one, year), spelled(other, year));
    }

    // ---- ACTS ----

    private List<Line> inForce(int year, int known) {
        List<Line> lines = List.of();
        for (Act a : all.acts) {
            if (a.year <= year && a.year <= known) {
                lines = a.lines;
            }
        }
        return lines;
    }

    private Line last(String kind) {
        Line found = null;
        for (Line l : inForce(all.now, all.now)) {
            if (l.kind.equals(kind)) {
                found = l;
            }
        }
        return found;
    }

    private int lastNumber(String kind, int without) {
        return last(kind) == null ? without : last(kind).n;
    }

    private boolean holds(Line line, int[] lives, int parts, int year) {
        int sum = lives[0] + lives[1] + lives[2];
        for (Cond c : line.conds) {
            int v = switch (c.word) {
                case "share" -> sum == 0 ? 0 : (int) Math.floor(100L * lives[c.tongue] / sum);
                case "people" -> sum;
                case "parts" -> parts;
                default -> year;
            };
            boolean is = c.sign == '<' ? v < c.n : c.sign == '>' ? v > c.n : v == c.n;
            if (is == c.not) {
                return false;
            }
        }
        return true;
    }

    private int parts(int place, int year, int known) {
        int n = 0;
        for (int p = 0; p < all.places.size(); p++) {
            n += partOf(p, year, known) == place ? 1 : 0;
        }
        return n;
    }

    private int firstOf(int[] lives, int parts, int year, int known) {
        for (Line l : inForce(year, known)) {
            if (l.kind.equals("first") && holds(l, lives, parts, year)) {
                return l.n;
            }
        }
        return lives[0] >= lives[1] && lives[0] >= lives[2] ? 0 : lives[1] >= lives[2] ? 1 : 2;
    }

    private boolean isAsked(int place, int year, int known) {
        return isPlace(place) && isYear(year) && isYear(known);
    }

    int first(int place, int year, int known) {
        return isAsked(place, year, known)
                ? firstOf(lives(place, year, known), parts(place, year, known), year, known) : -2;
    }

    int beside(int place, int year, int known) {
        if (!isAsked(place, year, known)) {
            return -2;
        }
        int[] lives = lives(place, year, known);
        int first = first(place, year, known);
        int best = -1;
        for (Line l : inForce(year, known)) {
            if (l.kind.equals("both") && holds(l, lives, parts(place, year, known), year)) {
                for (int t = 2; t >= 0; t--) {
                    if (t != first && lives[t] > 0 && (best < 0 || lives[t] >= lives[best])) {
                        best = t;
                    }
                }
                return best;
            }
        }
        return -1;
    }

    int swings(int place) {
        if (!isPlace(place)) {
            return -2;
        }
        int now = all.now;
        int[] lives = lives(place, now, now);
        int parts = parts(place, now, now);
        int first = firstOf(lives, parts, now, now);
        int fewest = -1;
        for (int from = 0; from < 3; from++) {
            int most = own(place, from, now, now);
            for (int to = 0; to < 3; to++) {
                for (int d = 1; to != from && d <= most && (fewest < 0 || d < fewest); d++) {
                    int[] moved = lives.clone();
                    moved[from] -= d;
                    moved[to] += d;
                    if (firstOf(moved, parts, now, now) != first) {
                        fewest = d;
                    }
                }
            }
        }
        return fewest;
    }

    // ---- HEARINGS ----

    int ask(int name) {
        if (!isName(name)) {
            return -2;
        }
        if (all.hearings.size() == 60) {
            return -3;
        }
        for (Hearing h : all.hearings) {
            if (h.open && all.names.get(h.name).place == all.names.get(name).place) {
                return -5;
            }
        }
        all.hearings.add(new Hearing(name, true, Map.of()));
        return all.hearings.size() - 1;
    }

    int vote(int hearing, int member, boolean is) {
        if (hearing < 0 || hearing >= all.hearings.size() || member < 0 || member > 8) {
            return -2;
        }
        Hearing h = all.hearings.get(hearing);
        if (!h.open) {
            return -5;
        }
        Map<Integer, Boolean> votes = new HashMap<>(h.votes);
        votes.put(member, is);
        all.hearings.set(hearing, new Hearing(h.name, true, votes));
        return 0;
    }

    int close(int hearing) {
        if (hearing < 0 || hearing >= all.hearings.size()) {
            return -2;
        }
        Hearing h = all.hearings.get(hearing);
        if (!h.open) {
            return -5;
        }
        all.hearings.set(hearing, new Hearing(h.name, false, h.votes));
        Name name = all.names.get(h.name);
        long yes = h.votes.values().stream().filter(v -> v).count();
        if (h.votes.isEmpty() || yes * 100 < (long) lastNumber("votes", 50) * h.votes.size()) {
            return 1;
        }
        if (name.died == -9 || name.died >= 0 && all.now - name.died < lastNumber("dead", 0)) {
            return 2;
        }
        Line far = last("far");
        for (int p = 0; far != null && p < all.places.size(); p++) {
            for (int t = 0; t < 3; t++) {
                int there = settled(p, t, all.now, all.now);
                if (p != name.place && miles2(p, name.place) <= (long) far.n * far.n && there >= 0
                        && distance(spelled(h.name, all.now), spelled(there, all.now)) <= far.m) {
                    return 3;
                }
            }
        }
        all.settlings.add(new Settling(all.now, h.name, 1000));
        return 0;
    }

    private long miles2(int p, int q) {
        long dx = all.places.get(p)[0] - all.places.get(q)[0];
        long dy = all.places.get(p)[1] - all.places.get(q)[1];
        return dx * dx + dy * dy;
    }

    private int settling(int place, int tongue, int year, int known) {
        int found = -1;
        for (int i = 0; i < all.settlings.size(); i++) {
            Settling s = all.settlings.get(i);
            Name n = all.names.get(s.name);
            boolean there = n.place == place && n.tongue == tongue && s.year <= year && s.year <= known;
            if (there && !(s.undone <= year && s.undone <= known)) {
                found = i;
            }
        }
        return found;
    }

    int settled(int place, int tongue, int year, int known) {
        if (!isAsked(place, year, known) || !isTongue(tongue)) {
            return -2;
        }
        int i = settling(place, tongue, year, known);
        return i < 0 ? -1 : all.settlings.get(i).name;
    }

    int undo(int place, int tongue) {
        if (!isPlace(place) || !isTongue(tongue)) {
            return -2;
        }
        int i = settling(place, tongue, all.now, all.now);
        if (i < 0) {
            return -5;
        }
        all.settlings.set(i, new Settling(all.settlings.get(i).year, all.settlings.get(i).name, all.now));
        return settled(place, tongue, all.now, all.now);
    }

    private String shownRow(int place, int year, int known, List<Integer> led) {
        int one = settled(place, first(place, year, known), year, known);
        int b = beside(place, year, known);
        int two = b < 0 ? -1 : settled(place, b, year, known);
        String row = one < 0 ? "" : spelled(one, year, known, led);
        if (one >= 0 && two >= 0) {
            led.add(-4);
            row += " ";
        }
        return two < 0 ? row : row + spelled(two, year, known, led);
    }

    int shown(int place, int year, int known) {
        if (!isAsked(place, year, known)) {
            return -2;
        }
        leads = new ArrayList<>();
        hand = shownRow(place, year, known, leads);
        return hand.length();
    }

    // ---- SIGNS ----

    private boolean isSign(int sign) {
        return sign >= 0 && sign < all.signs.size();
    }

    int sign(int place, int cost) {
        if (!isPlace(place) || cost < 0 || cost > 9999) {
            return -2;
        }
        if (all.signs.size() == 40) {
            return -3;
        }
        all.signs.add(new Sign(place, cost, all.now));
        return all.signs.size() - 1;
    }

    int anew(int sign) {
        if (!isSign(sign)) {
            return -2;
        }
        Sign s = all.signs.get(sign);
        all.signs.set(sign, new Sign(s.place, s.cost, all.now));
        return 0;
    }

    private boolean differs(Sign s, int year) {
        String then = shownRow(s.place, s.made, s.made, new ArrayList<>());
        return !then.equals(shownRow(s.place, year, year, new ArrayList<>()));
    }

    private boolean isLame(int sign) {
        return differs(all.signs.get(sign), all.now);
    }

    int signOf(int sign, int what) {
        if (!isSign(sign) || what < 0 || what > 5) {
            return -2;
        }
        Sign s = all.signs.get(sign);
        if (what >= 3) {
            return new int[] {s.made, s.place, s.cost}[what - 3];
        }
        if (!isLame(sign)) {
            return what == 1 ? -1 : 0;
        }
        int became = all.now;
        for (int y = all.now; y >= s.made && differs(s, y); y--) {
            became = y;
        }
        int by = became + lastNumber("sign", 10);
        return what == 0 ? 1 : what == 1 ? by : Math.max(0, all.now - by);
    }

    private int[] best;
    private int bestSum;

    int plan(int coin) {
        if (coin < 0 || coin > 9999) {
            return -2;
        }
        List<Integer> lame = new ArrayList<>();
        for (int i = 0; i < all.signs.size(); i++) {
            if (isLame(i)) {
                lame.add(i);
            }
        }
        if (lame.size() > 9 || lame.stream().anyMatch(i -> all.signs.get(i).cost > coin)) {
            return -1;
        }
        bestSum = Integer.MAX_VALUE;
        tryYears(lame, coin, new int[lame.size()], 0, 0);
        plan = new HashMap<>();
        for (int i = 0; i < lame.size(); i++) {
            plan.put(lame.get(i), best[i]);
        }
        return bestSum;
    }

    /** All ways, the first ones first: a later one counts only if its sum is less. */
    private void tryYears(List<Integer> lame, int coin, int[] years, int i, int sum) {
        if (sum >= bestSum) {
            return;
        }
        if (i == lame.size()) {
            best = years.clone();
            bestSum = sum;
            return;
        }
        for (int y = 0; y < lame.size(); y++) {
            int spent = all.signs.get(lame.get(i)).cost;
            for (int k = 0; k < i; k++) {
                spent += years[k] == y ? all.signs.get(lame.get(k)).cost : 0;
            }
            if (spent <= coin) {
                years[i] = y;
                tryYears(lame, coin, years, i + 1, sum + y);
            }
        }
    }

    int planned(int sign) {
        return plan.getOrDefault(sign, -1);
    }

    // ---- PAPERS ----

    int paper(int year) {
        if (year < 0 || year > all.now) {
            return -2;
        }
        paperYear = year;
        paper = new ArrayList<>();
        return 0;
    }

    int written() {
        if (paperYear < 0 || !text().matches("[a-z]{1,24}")) {
            return -2;
        }
        if (paper.size() == 7) {
            return -3;
        }
        paper.add(text());
        tape.clear();
        return paper.size();
    }

    private List<Integer> bestJoin;

    int join() {
        Set<Integer> named = new TreeSet<>();
        all.names.forEach(n -> named.add(n.place));
        if (paperYear < 0 || named.size() > 10 || paper.size() > named.size()) {
            return -1;
        }
        int[][] gain = new int[paper.size()][40];
        for (int i = 0; i < paper.size(); i++) {
            Arrays.fill(gain[i], Integer.MIN_VALUE);
            for (int n = 0; n < all.names.size(); n++) {
                int p = all.names.get(n).place;
                gain[i][p] = Math.max(gain[i][p], 20 - distance(paper.get(i), spelled(n, paperYear)));
            }
        }
        bestJoin = null;
        bestSum = Integer.MIN_VALUE;
        tryPlaces(named, gain, new LinkedHashSet<>(), -1, 0);
        joined = bestJoin;
        return bestSum;
    }

    private void tryPlaces(Set<Integer> named, int[][] gain, LinkedHashSet<Integer> taken, int last, int sum) {
        if (taken.size() == paper.size()) {
            if (bestJoin == null || sum > bestSum) {
                bestJoin = new ArrayList<>(taken);
                bestSum = sum;
            }
            return;
        }
        for (int p : named) {
            if (!taken.contains(p)) {
                int more = gain[taken.size()][p] + (last >= 0 && miles2(last, p) <= 900 ? 3 : 0);
                taken.add(p);
                tryPlaces(named, gain, taken, p, sum + more);
                taken.remove(p);
            }
        }
    }

    int joined(int i) {
        return i >= 0 && i < joined.size() ? joined.get(i) : -1;
    }

    // ---- counts, IMAGES, SLOTS ----

    int count(int what) {
        int lame = 0;
        for (int i = 0; what == 8 && i < all.signs.size(); i++) {
            lame += isLame(i) ? 1 : 0;
        }
        int settled = 0;
        for (int p = 0; p < all.places.size(); p++) {
            for (int t = 0; t < 3; t++) {
                settled += settled(p, t, all.now, all.now) >= 0 ? 1 : 0;
            }
        }
        int had = (int) Arrays.stream(rows).filter(r -> r != null).count();
        int[] counts = {all.now, all.places.size(), all.names.size(), all.spellings.size(), all.acts.size(),
            all.hearings.size(), all.counts.size(), all.signs.size(), lame, tape.size(), paper.size(), settled, had};
        return what >= 0 && what < counts.length ? counts[what] : -1;
    }

    int keep(int k) {
        if (k < 0 || k > 2) {
            return -2;
        }
        images[k] = all.copy();
        return 0;
    }

    int back(int k) {
        if (k < 0 || k > 2) {
            return -2;
        }
        if (images[k] == null) {
            return -6;
        }
        all = images[k].copy();
        return 0;
    }

    private static boolean isSlot(int slot) {
        return slot >= 0 && slot <= 3;
    }

    int row(int slot, int width, int n) {
        if (!isSlot(slot) || width < 0 || width > 3 || n > 60) {
            return -2;
        }
        if (n < 0) {
            return -3;
        }
        rows[slot] = width == 0 ? new byte[n] : width == 1 ? new short[n] : width == 2 ? new int[n] : new long[n];
        return 0;
    }

    boolean tear(int slot) {
        boolean had = isSlot(slot) && rows[slot] != null;
        if (had) {
            rows[slot] = null;
        }
        return had;
    }

    int write(int slot, int i, long v) {
        if (!isSlot(slot)) {
            return -2;
        }
        if (rows[slot] == null) {
            return -6;
        }
        try {
            if (rows[slot] instanceof byte[] b) {
                b[i] = (byte) v;
            } else if (rows[slot] instanceof short[] s) {
                s[i] = (short) v;
            } else if (rows[slot] instanceof int[] n) {
                n[i] = (int) v;
            } else if (rows[slot] instanceof long[] l) {
                l[i] = v;
            }
            return 0;
        } catch (IndexOutOfBoundsException e) {
            return -7;
        }
    }

    int paste(int slot, int i, int to, int k, int n) {
        if (!isSlot(slot) || !isSlot(to)) {
            return -2;
        }
        if (rows[slot] == null || rows[to] == null) {
            return -6;
        }
        try {
            System.arraycopy(rows[slot], i, rows[to], k, n);
            return 0;
        } catch (ArrayStoreException e) {
            return -8;
        } catch (IndexOutOfBoundsException e) {
            return -7;
        }
    }
}
