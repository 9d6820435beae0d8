import java.lang.reflect.Method;
import java.nio.file.Files;
import java.nio.file.Path;
import java.util.regex.Matcher;
import java.util.regex.Pattern;

/** The calls that README.md shows, each with the answer that stands behind it, so that the page stays true. */
public final class ReadmeTest {
    private static final String NEW = "RollScales scales = new RollScales();";
    private static final Pattern CALL = Pattern.compile("scales\\.(\\w+)\\(([^()]*)\\); +// ([A-Z_]+|-?[0-9]+(?:\\.[0-9])?)(?::.*)?");

    private static int checked = 0;
    private static int wrong = 0;

    public static void main(String[] args) throws Exception {
        boolean inCode = false;
        RollScales scales = new RollScales();
        for (String line : Files.readString(Path.of("README.md")).split("\n")) {
            if (line.startsWith("```")) {
                inCode = line.equals("```java");
            } else if (inCode && line.equals(NEW)) {
                scales = new RollScales();
            } else if (inCode) {
                check(scales, line);
            }
        }
        System.out.println(checked + " calls of README.md, " + wrong + " of them wrong");
        if (wrong != 0 || checked < 30) {
            System.exit(1);
        }
    }

    private static void check(RollScales scales, String line) throws Exception {
        checked++;
        Matcher call = CALL.matcher(line);
        if (!call.matches()) {
            tell(line, "is no call that this test can read");
            return;
        }
        String[] words = call.group(2).isEmpty() ? new String[0] : call.group(2).split(", ");
        Object[] values = new Object[words.length];
        for (int i = 0; i < words.length; i++) {
            values[i] = valueOf(words[i]);
        }
        double got = ((Number) methodOf(call.group(1)).invoke(scales, values)).doubleValue();
        if (got != answerOf(call.group(3))) {
            tell(line, "answered " + got);
        }
    }

    private static void tell(String line, String what) {
        wrong++;
        System.out.println(line + " -- " + what);
    }

    private static Method methodOf(String name) {
        for (Method each : RollScales.class.getMethods()) {
            if (each.getName().equals(name) && each.getDeclaringClass() == RollScales.class) {
                return each;
            }
        }
        throw new IllegalArgumentException("no such method: " + name);
    }

    private static Object valueOf(String word) {
        if (word.startsWith("'")) {
            return word.charAt(1);
        }
        return word.equals("true") || word.equals("false") ? (Object) Boolean.valueOf(word) : Integer.valueOf(word);
    }

    private static double answerOf(String word) throws Exception {
        boolean isConstant = Character.isLetter(word.charAt(0));
        return isConstant ? RollScales.class.getField(word).getInt(null) : Double.parseDouble(word);
    }
}
