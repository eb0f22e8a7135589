import java.nio.charset.StandardCharsets;

/** What the tests share: they tell each answer that is not the one due, and end with 1 then. */
final class Due {
    private int wrong;
    private int asked;
    private String part = "";

    void part(String name) {
        part = name;
    }

    void is(String what, long got, long want) {
        asked++;
        if (got != want) {
            wrong++;
            System.out.println(part + ": " + what + " answered " + got + ", due is " + want);
        }
    }

    void is(String what, String got, String want) {
        asked++;
        if (!got.equals(want)) {
            wrong++;
            System.out.println(part + ": " + what + " answered '" + got + "', due is '" + want + "'");
        }
    }

    void end() {
        System.out.println(asked + " answers, " + wrong + " not as due");
        if (wrong != 0) {
            System.exit(1);
        }
    }

    /** The TAPE has this text alone; answers the board, so that a call can follow at once. */
    static NameBoard tape(NameBoard board, String text) {
        byte[] bytes = text.getBytes(StandardCharsets.ISO_8859_1);
        board.end(0);
        for (int i = 0; i < bytes.length; i += 20) {
            board.feed(four(bytes, i), four(bytes, i + 4), four(bytes, i + 8), four(bytes, i + 12), four(bytes, i + 16));
        }
        board.end(bytes.length);
        return board;
    }

    private static int four(byte[] bytes, int from) {
        int number = 0;
        for (int i = from; i < from + 4; i++) {
            number = number << 8 | (i < bytes.length ? bytes[i] & 255 : 'x');
        }
        return number;
    }

    static String inHand(NameBoard board) {
        StringBuilder text = new StringBuilder();
        for (int i = 0; board.letter(i) != NameBoard.NONE; i++) {
            text.append((char) board.letter(i));
        }
        return text.toString();
    }

    static String leads(NameBoard board) {
        StringBuilder text = new StringBuilder();
        for (int i = 0; board.led(i) != NameBoard.NONE; i++) {
            text.append(i == 0 ? "" : " ").append(board.led(i));
        }
        return text.toString();
    }

    static int name(NameBoard board, String sound, int place, int tongue) {
        return tape(board, sound).name(place, tongue, NameBoard.NONE);
    }

    static int act(NameBoard board, String text) {
        return tape(board, text).act();
    }

    static int spelling(NameBoard board, int tongue, String text) {
        return tape(board, text).spelling(tongue);
    }

    /** Puts a NAME to the board with one vote for it, and closes the HEARING. */
    static int settle(NameBoard board, int name) {
        int hearing = board.ask(name);
        board.vote(hearing, 0, true);
        return board.close(hearing);
    }
}
