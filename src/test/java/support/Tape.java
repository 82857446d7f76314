/** Brings a text to the tape of an object, for feed takes twenty bytes at a time. */
final class Tape {
    private static final int FED = 20;

    private Tape() {
    }

    /** Behind what the tape has; characters are bytes 0 .. 255. */
    static void put(CandleEnds x, String text) {
        int before = x.about(6);
        for (int from = 0; from < text.length(); from += FED) {
            int[] five = new int[FED / 4];
            for (int i = 0; i < FED; i++) {
                int one = from + i < text.length() ? text.charAt(from + i) : ' ';
                five[i / 4] |= one << 24 - 8 * (i % 4);
            }
            x.feed(five[0], five[1], five[2], five[3], five[4]);
        }
        x.end(before + text.length());
    }

    static int tell(CandleEnds x, String text) {
        put(x, text);
        return x.text();
    }

    static CandleEnds ruledBy(CandleEnds x, String text) {
        x.by(tell(x, text));
        return x;
    }
}
