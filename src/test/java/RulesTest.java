import java.io.IOException;
import java.lang.reflect.Constructor;
import java.lang.reflect.Field;
import java.lang.reflect.Method;
import java.lang.reflect.Modifier;
import java.nio.file.Files;
import java.nio.file.Path;
import java.util.Set;
import java.util.TreeSet;
import java.util.regex.Matcher;
import java.util.regex.Pattern;

/** The face as the document tells it, and those rules of LANGUAGE.md that a look at the source can tell. */
public final class RulesTest {
    private static final Path SOURCE = Path.of("src/main/java/CandleEnds.java");
    private static final String[] FACE = {
        "int house(int,int)", "int candle(int,int)", "boolean seed(int)", "int buy(int,int,int)", "int light(int)",
        "int burn(int)", "int repay(int,int)", "int moths(int)", "int feed(int,int,int,int,int)", "int end(int)",
        "int text()", "int fault(int)", "boolean by(int)", "int played(int)", "int undo()", "int houseOf(int,int)",
        "int candleOf(int,int)", "int says(int,int,int,int)", "int drip(int,int)", "int whose(int,int)",
        "long odds(int,int,boolean)", "long blame(int,int,boolean)", "int supper(int,int,int)", "int married(int)",
        "int worth(int)", "int club(int)", "int settles(int,int,int)", "int image()", "int back()", "int about(int)"
    };
    private static final String[] FORBIDDEN = {
        "\\bthrow\\b", "\\bthrows\\b", "\\btry\\b", "\\bcatch\\b", "\\bsynchronized\\b", "\\bassert\\b", "->", "::",
        "\\bimport\\b", "\\bpackage\\b", "\\bprotected\\b", "\\bhashCode\\b", "\\btoString\\b", "\\bSystem\\.(?!arraycopy)",
        "\\w+Exact\\b", "\\bdouble\\b", "\\bfloat\\b", "\\bObject\\b", "\\bwhile \\(true\\)", "\\bfor \\(;;"
    };
    private static final int MOST_LINES = 60;
    private static final int MOST_PARAMETERS = 7;
    private static final int MOST_CLASSES = 12;
    private static final int MOST_FIELDS = 20;
    private static final Check CHECK = new Check();

    private RulesTest() {
    }

    public static void main(String[] args) throws IOException {
        face();
        classes();
        source();
        CHECK.close("RulesTest");
    }

    private static void face() {
        Set<String> wanted = new TreeSet<>(Set.of(FACE));
        Set<String> publicNames = new TreeSet<>();
        for (Method m : CandleEnds.class.getDeclaredMethods()) {
            if (Modifier.isPublic(m.getModifiers())) {
                publicNames.add(m.getName());
                String parameters = "";
                for (Class<?> p : m.getParameterTypes()) {
                    parameters += (parameters.isEmpty() ? "" : ",") + p.getName();
                }
                String told = m.getReturnType().getName() + " " + m.getName() + "(" + parameters + ")";
                CHECK.due(told + " is of the face", wanted.remove(told), true);
            } else {
                CHECK.due(m.getName() + " is private", Modifier.isPrivate(m.getModifiers()), true);
            }
        }
        CHECK.due("missing " + wanted, wanted.size(), 0);
        CHECK.due("final", Modifier.isFinal(CandleEnds.class.getModifiers()), true);
        Constructor<?>[] constructors = CandleEnds.class.getDeclaredConstructors();
        CHECK.due("one constructor", constructors.length, 1);
        CHECK.due("without parameters", constructors[0].getParameterCount(), 0);
        for (Field f : CandleEnds.class.getDeclaredFields()) {
            CHECK.due(f.getName(), Modifier.isPrivate(f.getModifiers()), !f.getName().equals("NONE"));
        }
        for (Class<?> c : CandleEnds.class.getDeclaredClasses()) {
            for (Method m : c.getDeclaredMethods()) {
                CHECK.due(c.getName() + "." + m.getName() + " has a name of the face", publicNames.contains(m.getName()), false);
            }
        }
        for (Method m : CandleEnds.class.getDeclaredMethods()) {
            boolean isHidden = !Modifier.isPublic(m.getModifiers());
            CHECK.due(m.getName() + " has a name of the face", isHidden && publicNames.contains(m.getName()), false);
        }
    }

    private static void classes() {
        Class<?>[] inside = CandleEnds.class.getDeclaredClasses();
        CHECK.due("classes at most", inside.length + 1 <= MOST_CLASSES, true);
        for (Class<?> c : inside) {
            CHECK.due(c + " is static", Modifier.isStatic(c.getModifiers()), true);
            int fields = 0;
            for (Field f : c.getDeclaredFields()) {
                boolean isConstant = Modifier.isStatic(f.getModifiers());
                CHECK.due(f + " is final if static", isConstant && !Modifier.isFinal(f.getModifiers()), false);
                fields += isConstant ? 0 : 1;
            }
            CHECK.due(c + " has " + fields + " fields", fields <= MOST_FIELDS, true);
            for (Method m : c.getDeclaredMethods()) {
                CHECK.due(m + ": parameters", m.getParameterCount() <= MOST_PARAMETERS, true);
            }
        }
    }

    private static void source() throws IOException {
        String text = Files.readString(SOURCE);
        CHECK.due("signs above 127", text.chars().anyMatch(c -> c > 127), false);
        String bare = text.replaceAll("(?s)/\\*.*?\\*/", "").replaceAll("//[^\n]*", "")
            .replaceAll("\"[^\"\n]*\"", "\"\"");
        for (String forbidden : FORBIDDEN) {
            Matcher m = Pattern.compile(forbidden).matcher(bare);
            CHECK.due(forbidden + " stands in the source", m.find(), false);
        }
        makes(bare);
        String[] lines = text.split("\n");
        int from = 0;
        for (int i = 0; i < lines.length; i++) {
            if (lines[i].matches(" {4}( {4})?[a-zA-Z].*\\) \\{")) {
                from = i;
            }
            if (lines[i].matches(" {4}( {4})?\\}")) {
                CHECK.due("lines of '" + lines[from].trim() + "'", i - from < MOST_LINES || lines[i].length() == 5, true);
            }
        }
    }

    /** Rows are made as an object is, and by no call: a field's first value, or a slot that the constructor fills. */
    private static void makes(String bare) {
        for (String line : bare.split("\n")) {
            boolean isField = line.matches(" +private final [\\w\\[\\]]+ \\w+ = new .*;");
            boolean isSlot = line.trim().equals("scripts[i] = new Script();");
            CHECK.due("'" + line.trim() + "' makes an object", line.contains("new ") && !isField && !isSlot, false);
        }
    }
}
