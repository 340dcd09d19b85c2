import java.io.IOException;
import java.lang.reflect.Constructor;
import java.lang.reflect.Field;
import java.lang.reflect.Method;
import java.lang.reflect.Modifier;
import java.nio.file.Files;
import java.nio.file.Path;
import java.util.Arrays;
import java.util.HashSet;
import java.util.Set;
import java.util.TreeSet;
import java.util.regex.Matcher;
import java.util.regex.Pattern;

/** The face of the document, and what LANGUAGE.md leaves of Java. */
public final class FormTest {
    private static final String[] CALLS = {
        "int bits(int)", "int tag(int,int)", "int of(int,int)", "int hush(int,boolean)", "int wake()",
        "int block(int,int)", "int ask(int,int,int)", "int tree(int)", "int grown(int)", "int heard(int,int)",
        "int learns(int)", "int would(int,int)", "int most(int,int,int)", "int feed(long)", "int end(int)",
        "int rules()", "int fault()", "int rule(int)", "int slot(int,int,int)", "int frame(int,int)",
        "int shown(int)", "int all(int)", "int went(int)", "long alone(int,int,int,int)", "long mean(int,int,int)",
        "int best(int)", "int guess(int,int,int)", "long ways(int,int,int,int)", "int know(int)", "int forget()",
        "int missing(int,int,int)", "int seen(int,int)", "int seed(int,int)", "int sheet(int,int,int)",
        "int lay(int,int,int)", "int read(int,int,int,int)", "int torn()", "int count(int)"};

    private static final Set<String> PUBLIC_NAMES = new HashSet<>();
    private static final Set<String> LIBRARY = Set.of("Math.min", "Math.max", "Integer.bitCount", "System.arraycopy");

    private static final String[] RULED_OUT = {"throw", "throws", "try", "catch", "synchronized", "assert", "import",
        "package", "Object", "equals", "hashCode", "toString", "var", "System.out", "->", "::"};

    public static void main(String[] args) throws IOException {
        face();
        constants();
        nestedClasses();
        words();
        Check.finish("FormTest");
    }

    private static String signature(Method method) {
        StringBuilder text = new StringBuilder();
        text.append(method.getReturnType().getName()).append(' ').append(method.getName()).append('(');
        for (Class<?> type : method.getParameterTypes()) {
            text.append(text.charAt(text.length() - 1) == '(' ? "" : ",").append(type.getName());
        }
        return text.append(')').toString();
    }

    private static void face() {
        Check.due("public and final", TagReader.class.getModifiers(), Modifier.PUBLIC | Modifier.FINAL);
        Set<String> visible = new TreeSet<>();
        for (Method method : TagReader.class.getDeclaredMethods()) {
            if (!Modifier.isPrivate(method.getModifiers())) {
                Check.due(signature(method), method.getModifiers(), Modifier.PUBLIC);
                visible.add(signature(method));
                PUBLIC_NAMES.add(method.getName());
            }
        }
        Check.holds("the calls of the document: " + visible, visible.equals(new TreeSet<>(Arrays.asList(CALLS))));
        for (Method method : TagReader.class.getDeclaredMethods()) {
            if (Modifier.isPrivate(method.getModifiers())) {
                Check.holds(method.getName() + " is no public name", !PUBLIC_NAMES.contains(method.getName()));
            }
        }
        Constructor<?>[] constructors = TagReader.class.getDeclaredConstructors();
        Check.due("one constructor", constructors.length, 1);
        Check.due("a public one", constructors[0].getModifiers(), Modifier.PUBLIC);
        Check.due("without parameters", constructors[0].getParameterCount(), 0);
    }

    private static void constants() {
        Check.due("BAD", TagReader.BAD, -1);
        Check.due("STATE", TagReader.STATE, -2);
        Check.due("FULL", TagReader.FULL, -3);
        Check.due("NONE", TagReader.NONE, -4);
        Check.due("SPENT", TagReader.SPENT, -6);
        int visible = 0;
        for (Field field : TagReader.class.getDeclaredFields()) {
            int is = field.getModifiers();
            visible += Modifier.isPrivate(is) ? 0 : 1;
            Check.holds(field.getName() + " is final, if static", !Modifier.isStatic(is) || Modifier.isFinal(is));
        }
        Check.due("visible fields", visible, 5);
    }

    private static void nestedClasses() {
        Class<?>[] nested = TagReader.class.getDeclaredClasses();
        Check.holds("some twelve classes", nested.length <= 11);
        isSmall(TagReader.class);
        for (Class<?> one : nested) {
            isSmall(one);
            for (Method method : one.getDeclaredMethods()) {
                Check.holds(method + " bears no public name", !PUBLIC_NAMES.contains(method.getName()));
            }
            int is = one.getModifiers();
            Check.holds(one + " is static", Modifier.isStatic(is));
            Check.holds(one + " is not public", !Modifier.isPublic(is) && !Modifier.isProtected(is));
            for (Field field : one.getDeclaredFields()) {
                int kind = field.getModifiers();
                Check.holds(field + " is final, if static", !Modifier.isStatic(kind) || Modifier.isFinal(kind));
            }
        }
    }

    private static void isSmall(Class<?> one) {
        int fields = 0;
        for (Field field : one.getDeclaredFields()) {
            fields += Modifier.isStatic(field.getModifiers()) ? 0 : 1;
        }
        Check.holds(one + " has some twenty fields", fields <= 20);
        for (Method method : one.getDeclaredMethods()) {
            Check.holds(method + " takes seven parameters at most", method.getParameterCount() <= 7);
        }
    }

    private static void methodsAreShort(String source) {
        int lines = 0;
        for (String line : source.split("\n")) {
            boolean begins = line.matches(" {4}( {4})?(?!if|for|while|switch|do)[a-z][^=;]*\\) \\{");
            lines = begins ? 1 : lines + 1;
            boolean ends = line.matches(" {4}( {4})?\\}");
            Check.holds("some sixty lines, ended by: " + line, !ends || lines <= 60);
        }
    }

    /** What stands ahead of a dot with a call behind it is of the library's part that is left, or our own. */
    private static void callsOfTheLibrary(String bare) {
        Matcher matcher = Pattern.compile("\\b([A-Z][a-z]\\w*)\\.([a-z]\\w*)\\(").matcher(bare);
        while (matcher.find()) {
            String call = matcher.group(1) + "." + matcher.group(2);
            Check.holds("the library's " + call, LIBRARY.contains(call));
        }
    }

    private static void words() throws IOException {
        String source = Files.readString(Path.of("src/main/java/TagReader.java"));
        String bare = source.replaceAll("(?s)/\\*.*?\\*/", " ").replaceAll("//[^\n]*", " ");
        for (String word : RULED_OUT) {
            boolean isWord = Character.isLetter(word.charAt(0));
            String pattern = isWord ? "(?s).*\\b" + word.replace(".", "\\.") + "\\b.*" : "(?s).*" + word + ".*";
            Check.holds("no " + word, !bare.matches(pattern));
        }
        methodsAreShort(bare);
        callsOfTheLibrary(bare);
        for (int i = 0; i < source.length(); i++) {
            Check.holds("a sign of 1 to 127 at " + i, source.charAt(i) > 0 && source.charAt(i) < 128);
        }
    }
}
