import java.io.IOException;
import java.nio.file.Files;
import java.nio.file.Path;
import java.util.function.LongSupplier;
import java.util.function.Supplier;
import java.util.function.ToLongFunction;

/** Answers at the edges, each told under the sentence of the document that asks for it. */
final class Edges {
    private static final Path DOCUMENT = Path.of("../shared/DOC.md");
    private static final int TOLD_ABOUT = 7;
    private static final int STATES = 4;

    private final Check check = new Check();
    private final String document;
    private String sentence = "";

    Edges() throws IOException {
        document = onOneLine(Files.readString(DOCUMENT));
    }

    /** What is due from here on is due by these words, which must stand in the document. */
    void sentence(String words) {
        sentence = words;
        due("these words stand in the document", document.contains(onOneLine(words)), true);
    }

    private static String onOneLine(String text) {
        return text.replaceAll("\\s+", " ").trim();
    }

    void due(String what, long got, long want) {
        check.due("'" + sentence + "': " + what, got, want);
    }

    void due(String what, boolean got, boolean want) {
        check.due("'" + sentence + "': " + what, got, want);
    }

    /** The call answers so, and nothing that can be seen is another thing behind it. */
    void refused(String what, CandleEnds x, LongSupplier call, long want) {
        String ahead = look(x);
        due(what, call.getAsLong(), want);
        String behind = look(x);
        due(what + " changes nothing: " + ahead + " is now " + behind, ahead.equals(behind), true);
    }

    /** The same on an island of its own, so that many calls don't come to the 512th of one object. */
    void refusedOn(String what, Supplier<CandleEnds> isle, ToLongFunction<CandleEnds> call, long want) {
        CandleEnds x = isle.get();
        refused(what, x, () -> call.applyAsLong(x), want);
    }

    /** All that can be seen of an island but what never changes: few calls, for an object is good for 512. */
    private static String look(CandleEnds x) {
        StringBuilder seen = new StringBuilder();
        for (int what = 0; what < TOLD_ABOUT; what++) {
            seen.append(x.about(what)).append(' ');
        }
        for (int state = 0; state < STATES; state++) {
            seen.append(x.about(10 + state)).append(' ');
        }
        seen.append(x.fault(0)).append(' ').append(x.fault(1)).append(' ').append(x.drip(CandleEnds.NONE, 0));
        for (int house = 0; house < x.about(0); house++) {
            for (int what = 1; what < 4; what++) {
                seen.append(' ').append(x.houseOf(house, what));
            }
        }
        for (int candle = 0; candle < x.about(1); candle++) {
            for (int what = 2; what < 5; what++) {
                seen.append(' ').append(x.candleOf(candle, what));
            }
            for (int inch = 0; inch < x.candleOf(candle, 1); inch++) {
                seen.append(' ').append(x.candleOf(candle, 10 + inch));
            }
        }
        return seen.toString();
    }

    void close(String name) {
        check.close(name);
    }
}
