import java.io.IOException;
import java.nio.file.Files;
import java.nio.file.Path;
import java.util.ArrayList;
import java.util.LinkedHashMap;
import java.util.List;
import java.util.Map;
import java.util.function.Supplier;
import java.util.function.ToIntFunction;

/**
 * What the tests of edges share. Each test stands for a sentence, quoted from DOC.md, and the words of the document's
 * terms and promises that no test quotes are told at the end: so no sentence is without a test.
 */
final class Edge {
    private static final Path DOC = Path.of("../shared/DOC.md");
    private static final int MIN = Integer.MIN_VALUE;
    private static final int MAX = Integer.MAX_VALUE;

    /** A call with one of its numbers left open. */
    interface Call {
        int on(NameBoard b, int v);
    }

    final Due due = new Due();
    private final Map<String, String> sections = new LinkedHashMap<>();
    private final Map<String, boolean[]> quoted = new LinkedHashMap<>();
    private final Map<Supplier<NameBoard>, String> pictures = new LinkedHashMap<>();
    private Supplier<NameBoard> make = Boards.FULL;

    Edge() throws IOException {
        if (!Files.exists(DOC)) {
            System.out.println("no document here: the quotes are not looked up");
            return;
        }
        readSections(Files.readString(DOC));
        for (Map.Entry<String, String> entry : sections.entrySet()) {
            entry.setValue(entry.getValue().replaceAll("\\s+", " ").trim());
            quoted.put(entry.getKey(), new boolean[entry.getValue().length()]);
        }
        due.part("the document");
        due.is("terms, promises and the one about use", sections.size(), 50);
    }

    private void readSections(String doc) {
        String section = "";
        for (String line : doc.split("\n")) {
            if (line.matches("## Promise [0-9]+: .*")) {
                section = line.replaceAll("## Promise ([0-9]+): .*", "$1");
            } else if (line.startsWith("An object is used")) {
                sections.put("use", line);
            } else if (line.matches("(I|II|III|IV|V|VI)\\. .*")) {
                section = line.substring(0, line.indexOf('.'));
                sections.merge(section, line.substring(line.indexOf('.') + 1), String::concat);
            } else if (line.startsWith("#")) {
                section = "";
            } else if (!section.isEmpty() && !line.startsWith("```")) {
                // The head of a promise is the call, behind which its sentences begin.
                sections.merge(section, " " + line.replaceFirst("^`[^`]*`: ", ""), String::concat);
            }
        }
    }

    /** What follows tests this sentence of a term (I to VI) or a promise (1 to 43), on the board that has all. */
    void sentence(String section, String quote) {
        make = Boards.FULL;
        due.part(section + " \"" + quote + "\"");
        if (sections.isEmpty()) {
            return;
        }
        int at = sections.getOrDefault(section, "").indexOf(quote);
        due.is("it stands in the document", at >= 0 ? 1 : 0, 1);
        for (int i = at; at >= 0 && i < at + quote.length(); i++) {
            quoted.get(section)[i] = true;
        }
    }

    /** Boards for the calls that follow, instead of the one that has all. */
    void on(Supplier<NameBoard> maker) {
        make = maker;
    }

    void is(String what, long got, long want) {
        due.is(what, got, want);
    }

    void is(String what, String got, String want) {
        due.is(what, got, want);
    }

    /** Each of these numbers is taken, and the call changes what is seen. */
    void taken(String what, Call call, int... values) {
        for (int v : values) {
            NameBoard b = make.get();
            due.is(what + " " + v + " is taken", call.on(b, v) >= 0 ? 1 : 0, 1);
            due.is(what + " " + v + " changes something", Picture.of(b).equals(untouched()) ? 1 : 0, 0);
        }
    }

    /** Each of these numbers is one of which something is told. */
    void told(String what, Call call, int... values) {
        for (int v : values) {
            due.is(what + " " + v + " is told of", call.on(make.get(), v) >= NameBoard.NONE ? 1 : 0, 1);
        }
    }

    /** Each of these numbers is refused, and nothing is another one then. */
    void refused(String what, int want, Call call, int... values) {
        for (int v : values) {
            refused(what + " " + v, want, b -> call.on(b, v));
        }
    }

    /** What lies beside these two, next to them and far away, is refused. */
    void refusedBeside(String what, int least, int most, int want, Call call) {
        refused(what, want, call, MIN, least - 1, most + 1, MAX);
    }

    void refused(String what, int want, ToIntFunction<NameBoard> call) {
        NameBoard b = make.get();
        due.is(what, call.applyAsInt(b), want);
        unchanged(what, b);
    }

    void unchanged(String what, NameBoard b) {
        due.is(what + " changes nothing", difference(Picture.of(b), untouched()), "");
    }

    private String untouched() {
        return pictures.computeIfAbsent(make, maker -> Picture.of(maker.get()));
    }

    static String difference(String got, String want) {
        String[] one = got.split("\n");
        String[] other = want.split("\n");
        for (int i = 0; i < Math.min(one.length, other.length); i++) {
            if (!one[i].equals(other[i])) {
                return one[i] + " for " + other[i];
            }
        }
        return one.length == other.length ? "" : one.length + " lines for " + other.length;
    }

    void end() {
        due.part("quoted");
        for (Map.Entry<String, String> entry : sections.entrySet()) {
            due.is(entry.getKey() + " without a test", String.join(" .. ", unquoted(entry.getKey(), entry.getValue())), "");
        }
        due.end();
    }

    private List<String> unquoted(String section, String text) {
        List<String> pieces = new ArrayList<>();
        StringBuilder piece = new StringBuilder();
        for (int i = 0; i <= text.length(); i++) {
            boolean open = i < text.length() && (!quoted.get(section)[i] || text.charAt(i) == ' ');
            if (open) {
                piece.append(text.charAt(i));
            } else if (!piece.toString().isBlank()) {
                pieces.add(piece.toString().trim());
                piece.setLength(0);
            } else {
                piece.setLength(0);
            }
        }
        return pieces;
    }
}
