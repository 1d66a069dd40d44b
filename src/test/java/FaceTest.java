import java.io.IOException;
import java.lang.reflect.Constructor;
import java.lang.reflect.Field;
import java.lang.reflect.Method;
import java.lang.reflect.Modifier;
import java.nio.charset.StandardCharsets;
import java.nio.file.Files;
import java.nio.file.Path;
import java.util.Arrays;
import java.util.Set;
import java.util.TreeSet;
import java.util.regex.Matcher;
import java.util.regex.Pattern;

/** The class has just the document's face, and keeps to the rules of LANGUAGE.md that can be looked up. */
public final class FaceTest {
    private static final String[] FACE = {"type 1", "clear 0", "tells 0", "accepts 2", "passes 1", "pulls 2", "reads 1",
        "moves 4", "evens 1", "bounds 4", "undo 0", "copy 2", "pair 3", "write 2", "costs 2", "sees 2", "forget 0",
        "which 0", "ask 0", "keep 1", "back 1", "count 1"};
    private static int wrong = 0;

    private static void must(boolean so, String what) {
        if (!so) {
            wrong++;
            System.out.println("not so: " + what);
        }
    }

    public static void main(String[] args) throws IOException {
        face();
        for (Class<?> each : StaleBounds.class.getDeclaredClasses()) {
            inside(each);
        }
        must(StaleBounds.class.getDeclaredClasses().length <= 12, "at most twelve classes");
        source(Files.readString(Path.of("src/main/java/StaleBounds.java"), StandardCharsets.ISO_8859_1));
        System.out.println(wrong == 0 ? "the face is as due" : wrong + " things are not as due");
        if (wrong != 0) {
            System.exit(1);
        }
    }

    private static void face() {
        Class<?> c = StaleBounds.class;
        must(Modifier.isPublic(c.getModifiers()) && Modifier.isFinal(c.getModifiers()), "public and final");
        must(c.getPackageName().isEmpty() && c.getSuperclass() == Object.class, "no package, no class above");
        Set<String> open = new TreeSet<>();
        Set<String> names = new TreeSet<>();
        for (Method m : c.getDeclaredMethods()) {
            if (!Modifier.isPrivate(m.getModifiers())) {
                must(Modifier.isPublic(m.getModifiers()) && !Modifier.isStatic(m.getModifiers()), m + " is public");
                must(m.getReturnType() == int.class, m + " answers an int");
                must(Arrays.stream(m.getParameterTypes()).allMatch(p -> p == int.class), m + " takes ints");
                open.add(m.getName() + " " + m.getParameterCount());
                names.add(m.getName());
            }
        }
        must(open.equals(new TreeSet<>(Arrays.asList(FACE))), "the public methods are " + open);
        for (Method m : c.getDeclaredMethods()) {
            must(Modifier.isPublic(m.getModifiers()) || !names.contains(m.getName()), m + " has a name of its own");
        }
        Set<String> constants = new TreeSet<>();
        for (Field f : c.getDeclaredFields()) {
            if (!Modifier.isPrivate(f.getModifiers())) {
                constants.add(Modifier.toString(f.getModifiers()) + " " + f.getType() + " " + f.getName());
            }
        }
        must(constants.toString().equals("[public static final int BAD, public static final int FULL, "
                + "public static final int NONE, public static final int STATE]"), "the constants are " + constants);
        Constructor<?>[] makers = c.getDeclaredConstructors();
        must(makers.length == 1 && makers[0].getParameterCount() == 0
                && Modifier.isPublic(makers[0].getModifiers()), "one public constructor");
        inside(c);
    }

    private static void inside(Class<?> c) {
        int own = 0;
        for (Field f : c.getDeclaredFields()) {
            if (Modifier.isStatic(f.getModifiers())) {
                must(Modifier.isFinal(f.getModifiers()), f + " is final");
            } else {
                own++;
            }
        }
        must(own <= 20, c + " has at most twenty fields");
        must(c == StaleBounds.class || Modifier.isStatic(c.getModifiers()), c + " is static");
        for (Method m : c.getDeclaredMethods()) {
            must(m.getParameterCount() <= 7, m + " takes at most seven");
        }
    }

    private static void source(String whole) {
        must(whole.chars().allMatch(letter -> letter == '\n' || letter >= 32 && letter < 127), "plain letters alone");
        String code = whole.replaceAll("(?s)/\\*.*?\\*/", "").replaceAll("//[^\n]*", "")
                .replaceAll("\"[^\"]*\"", "\"\"");
        for (String word : new String[] {"throw", "throws", "try", "catch", "synchronized", "assert", "package",
            "protected", "double", "float", "System\\.(?!arraycopy\\()", "\\w*Exact"}) {
            must(!Pattern.compile("\\b" + word + (word.endsWith(")") ? "" : "\\b")).matcher(code).find(), "no " + word);
        }
        must(!code.contains("->") && !code.contains("::"), "no lambda, no method reference");
        Matcher imports = Pattern.compile("import ([^;]*);").matcher(code);
        while (imports.find()) {
            must(imports.group(1).equals("java.util.Arrays"), "import " + imports.group(1));
        }
        methods(code.split("\n"));
    }

    /** Methods are short, and none but a constructor or a field makes anything. */
    private static void methods(String[] lines) {
        int start = -1;
        boolean maker = false;
        for (int i = 0; i < lines.length; i++) {
            if (start < 0 && lines[i].matches("\\s+(\\w+ )*(\\w+(\\[])? )?\\w+\\([^()]*\\) \\{")
                    && !lines[i].trim().matches("(if|for|while|switch).*")) {
                start = i;
                maker = lines[i].trim().matches("(public )?(StaleBounds|Ledger|History|Text)\\(.*");
            }
            if (start >= 0 && lines[i].matches(lines[start].replaceAll("\\S.*", "") + "}")) {
                must(i - start <= 60, "the method at line " + start + " of the bare code is short");
                start = -1;
            }
            must(start < 0 || maker || !lines[i].contains("new "), "made in a method: " + lines[i]);
        }
    }
}
