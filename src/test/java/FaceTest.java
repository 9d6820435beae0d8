import java.lang.reflect.Constructor;
import java.lang.reflect.Field;
import java.lang.reflect.Member;
import java.lang.reflect.Method;
import java.lang.reflect.Modifier;
import java.nio.file.Files;
import java.nio.file.Path;
import java.util.ArrayList;
import java.util.Arrays;
import java.util.List;
import java.util.TreeSet;
import java.util.regex.Matcher;
import java.util.regex.Pattern;

/** The public face, and those rules of ../shared/LANGUAGE.md that a look at the class or its text can tell. */
public final class FaceTest {
    private static final String[] FACE = {
        "public RollScales()",
        "public static final int RollScales.BAD_VALUE",
        "public static final int RollScales.FULL",
        "public static final int RollScales.NONE",
        "public static final int RollScales.NOT_POSSIBLE",
        "public static final int RollScales.UNKNOWN",
        "public float RollScales.off(int,int)",
        "public int RollScales.axle(int,int,int)",
        "public int RollScales.axleOf(int,int,int)",
        "public int RollScales.cart(int)",
        "public int RollScales.cartOf(int,int)",
        "public int RollScales.carts()",
        "public int RollScales.clearText()",
        "public int RollScales.count(int)",
        "public int RollScales.fastest(int)",
        "public int RollScales.fault()",
        "public int RollScales.keep()",
        "public int RollScales.leastWindow(int,int)",
        "public int RollScales.lift(int,int,boolean)",
        "public int RollScales.load(int,int,int)",
        "public int RollScales.restore()",
        "public int RollScales.run(int,int)",
        "public int RollScales.runOf(int,int,int)",
        "public int RollScales.set(int,int)",
        "public int RollScales.shortestPlate(int,int)",
        "public int RollScales.tare(int)",
        "public int RollScales.tick(int,int,int,int)",
        "public int RollScales.type(char)",
        "public int RollScales.undo()",
    };
    private static final String[] NOT_IN_TEXT = {"->", "::", "\\btry\\b", "\\bcatch\\b", "\\bthrow\\b", "\\bthrows\\b",
        "\\bimport\\b", "\\bpackage\\b", "\\bsynchronized\\b", "\\bassert\\b", "\\bfinally\\b", "\\bSystem\\.(?!arraycopy)",
        "\\bString\\b", "\\bdouble\\b", "Exact\\b", "Float\\.|Double\\.", "\\bstatic \\{", "\"", "[^\\x00-\\x7f]",
        "\\bwhile \\(true\\)", "for \\(;;\\)", "\\bprotected\\b"};

    private static int wrong = 0;

    private static void tell(String what) {
        wrong++;
        System.out.println(what);
    }

    public static void main(String[] args) throws Exception {
        face();
        nested();
        staticFields(RollScales.class);
        if (args.length != 1) {
            tell("the place of RollScales.java is not given");
        } else {
            text(Files.readString(Path.of(args[0])));
        }
        System.out.println(wrong + " faults of the face or the text");
        if (wrong != 0) {
            System.exit(1);
        }
    }

    private static void face() {
        if (RollScales.class.getModifiers() != (Modifier.PUBLIC | Modifier.FINAL)) {
            tell("the class is not public and final alone");
        }
        List<Member> members = new ArrayList<>();
        for (Constructor<?> each : RollScales.class.getDeclaredConstructors()) {
            members.add(each);
        }
        members.addAll(Arrays.asList(RollScales.class.getDeclaredFields()));
        members.addAll(Arrays.asList(RollScales.class.getDeclaredMethods()));
        TreeSet<String> open = new TreeSet<>();
        for (Member each : members) {
            if (!Modifier.isPrivate(each.getModifiers()) && !each.isSynthetic()) {
                open.add(each.toString());
            }
        }
        TreeSet<String> due = new TreeSet<>(Arrays.asList(FACE));
        if (!open.equals(due)) {
            tell("the face is " + open + ", due is " + due);
        }
    }

    private static TreeSet<String> publicNames() {
        TreeSet<String> names = new TreeSet<>();
        for (Method each : RollScales.class.getMethods()) {
            if (each.getDeclaringClass() == RollScales.class) {
                names.add(each.getName());
            }
        }
        return names;
    }

    private static void nested() {
        TreeSet<String> publicNames = publicNames();
        for (Method each : RollScales.class.getDeclaredMethods()) {
            if (Modifier.isPrivate(each.getModifiers()) && publicNames.contains(each.getName())) {
                tell("a private method bears the name of a public one: " + each);
            }
        }
        Class<?>[] inside = RollScales.class.getDeclaredClasses();
        if (inside.length > 11) {
            tell("more than some twelve classes");
        }
        for (Class<?> each : inside) {
            if (Modifier.isPublic(each.getModifiers()) || !Modifier.isStatic(each.getModifiers())) {
                tell("not private or package-visible and static: " + each);
            }
            for (Method method : each.getDeclaredMethods()) {
                if (publicNames.contains(method.getName())) {
                    tell("a method inside bears the name of a public one: " + method);
                }
            }
            staticFields(each);
            if (each.getDeclaredFields().length > 20) {
                tell("more than some twenty fields: " + each);
            }
        }
    }

    private static void staticFields(Class<?> owner) {
        List<Class<?>> allowed = List.of(int.class, long.class, boolean.class, char.class, String.class,
                int[].class, long[].class, char[].class, byte[].class);
        for (Field each : owner.getDeclaredFields()) {
            boolean isStatic = Modifier.isStatic(each.getModifiers());
            if (isStatic && (!Modifier.isFinal(each.getModifiers()) || !allowed.contains(each.getType()))) {
                tell("a static field that rule 5 does not allow: " + each);
            }
        }
        for (Method each : owner.getDeclaredMethods()) {
            if (each.getParameterCount() > 7) {
                tell("more than seven parameters: " + each);
            }
        }
    }

    private static void text(String source) {
        String code = source.replaceAll("/\\*(?s:.*?)\\*/|//[^\n]*", " ");
        for (String each : NOT_IN_TEXT) {
            Matcher found = Pattern.compile(each).matcher(code);
            if (found.find()) {
                tell("in the text: " + found.group());
            }
        }
        int begin = 0;
        int line = 0;
        for (String each : source.split("\n", -1)) {
            line++;
            if (each.matches("(    |        )[A-Za-z].*\\{") && !each.contains("class ")) {
                begin = line;
            }
            if (each.matches("(    |        )\\}") && line - begin > 60) {
                tell("a method of more than sixty lines ends at the line " + line);
            }
        }
    }
}
