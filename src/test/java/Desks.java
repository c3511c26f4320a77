/** Makes desks from texts that can be read, and reads their output. */
final class Desks {
    private Desks() {
    }

    static EscrowDesk of(String text) {
        EscrowDesk desk = new EscrowDesk();
        int answer = load(desk, text);
        if (answer < 0) {
            throw new AssertionError("error " + desk.errorKind() + " at " + desk.errorPosition() + " in: " + text);
        }
        return desk;
    }

    static int load(EscrowDesk desk, String text) {
        feed(desk, text);
        return desk.load(text.length());
    }

    /** Feeds a text, with spaces behind it up to a whole number of feeds. */
    static void feed(EscrowDesk desk, String text) {
        for (int at = 0; at < text.length(); at += 20) {
            desk.feed(four(text, at), four(text, at + 4), four(text, at + 8), four(text, at + 12), four(text, at + 16));
        }
    }

    private static int four(String text, int at) {
        int bytes = 0;
        for (int index = at; index < at + 4; index++) {
            bytes = bytes << 8 | (index < text.length() ? text.charAt(index) & 255 : ' ');
        }
        return bytes;
    }

    static String line(EscrowDesk desk, int milestone) {
        int length = desk.write(milestone);
        StringBuilder line = new StringBuilder();
        for (int k = 0; k < length; k++) {
            line.append(desk.written(k));
        }
        return line.toString();
    }

    static String entry(EscrowDesk desk, int entry) {
        return desk.entry(entry, 0) + " " + desk.entry(entry, 1) + " " + desk.entry(entry, 2) + " " + desk.entry(entry, 3);
    }
}
