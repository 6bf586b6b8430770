import java.io.IOException;
import java.lang.reflect.Field;
import java.lang.reflect.Method;
import java.lang.reflect.Modifier;
import java.nio.file.Files;
import java.nio.file.Path;
import java.util.ArrayList;
import java.util.List;
import java.util.Set;
import java.util.regex.Matcher;
import java.util.regex.Pattern;

/** What can be seen of the rules of ../shared/LANGUAGE.md in the text of the class and in the class itself. */
public final class LanguageTest {
    private static final Path SOURCE = Path.of("src/main/java/TableTurns.java");
    private static final Set<String> IMPORTS = Set.of("java.util.Arrays", "java.util.ArrayList", "java.util.List",
        "java.util.Iterator", "java.util.NoSuchElementException");
    /** What the library is called by, and for what. */
    private static final Set<String> STATIC_CALLS = Set.of("Math.abs", "Math.max", "Math.min", "Integer.bitCount",
        "Integer.numberOfTrailingZeros", "System.arraycopy", "Arrays.fill", "Arrays.copyOf", "Arrays.copyOfRange");
    private static final Set<Class<?>> CONSTANTS = Set.of(int.class, long.class, boolean.class, char.class, String.class,
        int[].class, long[].class, char[].class, byte[].class);
    private static final String[] NEVER = {"package", "finally", "synchronized", "assert", "volatile", "native",
        "Thread", "Random", "Object", "hashCode", "getMessage", "public static void"};
    /** Those of rule 6 that the machine itself does not throw, nor one below them. */
    private static final Set<String> CAUGHT = Set.of("IllegalStateException", "IllegalArgumentException",
        "UnsupportedOperationException", "NoSuchElementException");
    private static final int MOST_CLASSES = 12;
    private static final int MOST_FIELDS = 20;
    private static final int MOST_PARAMETERS = 7;
    private static final int LONGEST_METHOD = 60;

    private static int wrong = 0;

    public static void main(String[] args) throws IOException {
        String source = Files.readString(SOURCE);
        for (int i = 0; i < source.length(); i++) {
            check("the sign " + (int) source.charAt(i), source.charAt(i) < 127);
        }
        String code = withoutComments(source);
        String bare = code.replaceAll("\"[^\"\n]*\"", "\"\"").replaceAll("'[^'\n]*'", "' '");
        takesFromTheLibraryWhatIsListed(bare);
        leavesOutWhatIsRuledOut(bare, code);
        methodsAreShort(bare);
        classesAreSmall();
        System.out.println(wrong == 0 ? "no rule is seen broken" : wrong + " things are against the rules");
        if (wrong != 0) {
            System.exit(1);
        }
    }

    private static String withoutComments(String source) {
        return Pattern.compile("/\\*.*?\\*/", Pattern.DOTALL).matcher(source).replaceAll("").replaceAll("//[^\n]*", "");
    }

    private static void takesFromTheLibraryWhatIsListed(String bare) {
        Matcher imports = Pattern.compile("import\\s+([\\w.*]+)\\s*;").matcher(bare);
        while (imports.find()) {
            check("import of " + imports.group(1), IMPORTS.contains(imports.group(1)));
        }
        Matcher calls = Pattern.compile("\\b(?:Math|Integer|Long|System|Arrays|String|Character|Boolean)\\.\\w+").matcher(bare);
        while (calls.find()) {
            check("use of " + calls.group(), STATIC_CALLS.contains(calls.group()));
        }
        Matcher thrown = Pattern.compile("\\bthrow\\b\\s*(new \\w+)?").matcher(bare);
        while (thrown.find()) {
            check("throw of " + thrown.group(1), "new NoSuchElementException".equals(thrown.group(1)));
        }
        Matcher caught = Pattern.compile("\\bcatch\\s*\\(([^)]*)\\b\\w+\\s*\\)").matcher(bare);
        while (caught.find()) {
            for (String kind : caught.group(1).split("\\|")) {
                check("catch of " + kind.trim(), CAUGHT.contains(kind.trim()));
            }
        }
    }

    private static void leavesOutWhatIsRuledOut(String bare, String code) {
        for (String word : NEVER) {
            check("the word " + word, !Pattern.compile("\\b" + word + "\\b").matcher(bare).find());
        }
        check("a lambda or a method reference", !bare.contains("->") && !bare.contains("::"));
        check("texts joined by +", !Pattern.compile("\"\\s*\\+|\\+\\s*\"").matcher(bare).find());
        check("a block of static statements", !Pattern.compile("\\bstatic\\s*\\{").matcher(bare).find());
        check("a text beyond its line", !code.contains("\"\"\""));
    }

    /** A method begins where a line of four or eight blanks opens a block behind ( ), and ends at the brace below it. */
    private static void methodsAreShort(String bare) {
        List<String> lines = new ArrayList<>(List.of(bare.split("\n")));
        Pattern head = Pattern.compile("^( {4}| {8})[\\w\\[\\]]+ ?[^=;]*\\([^;]*\\)[^;]*\\{$");
        int methods = 0;
        for (int from = 0; from < lines.size(); from++) {
            Matcher matcher = head.matcher(lines.get(from));
            if (matcher.find()) {
                int to = from;
                while (to < lines.size() && !lines.get(to).equals(matcher.group(1) + "}")) {
                    to++;
                }
                methods++;
                check("some sixty lines at most: " + lines.get(from), to - from + 1 <= LONGEST_METHOD);
            }
        }
        check("methods were found", methods > 100);
    }

    private static void classesAreSmall() {
        List<Class<?>> classes = new ArrayList<>(List.of(TableTurns.class));
        classes.addAll(List.of(TableTurns.class.getDeclaredClasses()));
        check("some twelve classes at most", classes.size() <= MOST_CLASSES);
        for (Class<?> one : classes) {
            int fields = 0;
            for (Field field : one.getDeclaredFields()) {
                if (Modifier.isStatic(field.getModifiers())) {
                    check("constant " + field, Modifier.isFinal(field.getModifiers()) && CONSTANTS.contains(field.getType()));
                } else {
                    fields++;
                }
            }
            check("some twenty fields at most: " + one, fields <= MOST_FIELDS);
            for (Method method : one.getDeclaredMethods()) {
                check("seven parameters at most: " + method, method.getParameterCount() <= MOST_PARAMETERS);
            }
        }
    }

    private static void check(String what, boolean holds) {
        if (!holds) {
            wrong++;
            System.out.println("against the rules: " + what);
        }
    }
}
