import java.io.IOException;
import java.lang.reflect.Field;
import java.lang.reflect.Method;
import java.lang.reflect.Modifier;
import java.nio.file.Files;
import java.nio.file.Path;
import java.util.Set;
import java.util.TreeSet;
import java.util.regex.Matcher;
import java.util.regex.Pattern;

/** The class has the document's face and no more, and its source keeps to the rules that can be looked for. */
public final class FaceTest {
    private static final Path SOURCE = Path.of("src/main/java/ReadOutAlongTheWay.java");
    private static final Path DOCUMENT = Path.of("../shared/DOC.md");
    private static final int MOST_CLASSES = 12;
    private static final int MOST_FIELDS = 20;
    private static final int MOST_PARAMETERS = 7;
    private static final int MOST_LINES = 60;
    /** What the source takes of the library, all of it in rule 4 of LANGUAGE.md. */
    private static final Set<String> LIBRARY = Set.of("Integer.bitCount", "Math.abs", "Math.max", "System.arraycopy");
    private static int wrong = 0;

    private FaceTest() {
    }

    private static void must(boolean is, String what) {
        if (!is) {
            wrong++;
            System.out.println(what);
        }
    }

    public static void main(String[] args) throws IOException {
        Set<String> due = dueMethods();
        must(due.size() == 64, "the document has " + due.size() + " methods");
        methods(due);
        fields();
        innerClasses();
        sizes();
        source();
        System.out.println(wrong == 0 ? "the face is as due" : wrong + " things of the face are not as due");
        if (wrong != 0) {
            System.exit(1);
        }
    }

    /** The methods of the document's face, as in "int row(int, int, int)". */
    private static Set<String> dueMethods() throws IOException {
        Set<String> due = new TreeSet<>();
        Matcher m = Pattern.compile("(?m)^    public (int|long) (\\w+)\\(([^)]*)\\);").matcher(Files.readString(DOCUMENT));
        while (m.find()) {
            due.add(m.group(1) + " " + m.group(2) + "(" + m.group(3).replaceAll("(int|long|boolean) \\w+", "$1") + ")");
        }
        return due;
    }

    private static void methods(Set<String> due) {
        Set<String> found = new TreeSet<>();
        Set<String> publicNames = new TreeSet<>();
        for (Method m : ReadOutAlongTheWay.class.getDeclaredMethods()) {
            if (Modifier.isPublic(m.getModifiers())) {
                publicNames.add(m.getName());
                StringBuilder types = new StringBuilder();
                for (Class<?> type : m.getParameterTypes()) {
                    types.append(types.length() == 0 ? "" : ", ").append(type.getName());
                }
                found.add(m.getReturnType() + " " + m.getName() + "(" + types + ")");
            } else {
                must(Modifier.isPrivate(m.getModifiers()), m + " is seen outside");
            }
            must(m.getParameterCount() <= MOST_PARAMETERS, m + " has too many parameters");
        }
        must(found.equals(due), "the methods are " + found + ", due are " + due);
        for (Class<?> inner : ReadOutAlongTheWay.class.getDeclaredClasses()) {
            for (Method m : inner.getDeclaredMethods()) {
                must(!publicNames.contains(m.getName()), m + " bears the name of a public one");
            }
        }
        must(Modifier.isFinal(ReadOutAlongTheWay.class.getModifiers()), "the class is not final");
        must(ReadOutAlongTheWay.class.getDeclaredConstructors().length == 1, "there is more than one constructor");
        must(ReadOutAlongTheWay.NONE == -1, "NONE is not -1");
    }

    private static void fields() {
        for (Field f : ReadOutAlongTheWay.class.getDeclaredFields()) {
            boolean none = f.getName().equals("NONE") && Modifier.isPublic(f.getModifiers());
            must(none || Modifier.isPrivate(f.getModifiers()), f + " is seen outside");
            must(!Modifier.isStatic(f.getModifiers()) || Modifier.isFinal(f.getModifiers()), f + " is static state");
        }
    }

    private static void innerClasses() {
        for (Class<?> inner : ReadOutAlongTheWay.class.getDeclaredClasses()) {
            int modifiers = inner.getModifiers();
            must(Modifier.isStatic(modifiers), inner + " is not static");
            must(!Modifier.isPublic(modifiers) && !Modifier.isProtected(modifiers), inner + " is seen outside");
        }
    }

    /** Rules 5 and 11 of LANGUAGE.md, for the classes inside as well. */
    private static void sizes() {
        Class<?>[] inner = ReadOutAlongTheWay.class.getDeclaredClasses();
        must(inner.length < MOST_CLASSES, "there are " + inner.length + " classes inside");
        for (Class<?> each : inner) {
            int own = 0;
            for (Field f : each.getDeclaredFields()) {
                boolean isStatic = Modifier.isStatic(f.getModifiers());
                must(!isStatic || Modifier.isFinal(f.getModifiers()), f + " is static state");
                own += isStatic ? 0 : 1;
            }
            must(own <= MOST_FIELDS, each + " has " + own + " fields");
            for (Method m : each.getDeclaredMethods()) {
                must(m.getParameterCount() <= MOST_PARAMETERS, m + " has too many parameters");
            }
            must(each.getDeclaredClasses().length == 0, each + " has classes inside");
        }
    }

    private static void source() throws IOException {
        String text = Files.readString(SOURCE).replaceAll("(?s)/\\*.*?\\*/", "").replaceAll("//.*", "");
        Matcher method = Pattern.compile("(?ms)^( {4}| {8})\\S[^\\n]*\\) \\{\\n(.*?)^\\1\\}$").matcher(text);
        while (method.find()) {
            long lines = method.group(2).lines().count();
            must(lines <= MOST_LINES, "a method has " + lines + " lines: " + method.group().lines().findFirst().orElse(""));
            boolean isConstructor = method.group().startsWith("    public ReadOutAlongTheWay() {");
            must(isConstructor || !Pattern.compile("\\bnew\\b").matcher(method.group(2)).find(), "an object is made by a call: " + method.group());
        }
        for (String library : found("\\b([A-Z][a-z]\\w*\\.\\w+)", text)) {
            must(LIBRARY.contains(library), "the source has " + library);
        }
        for (String word : new String[] {"throw", "try", "catch", "synchronized", "assert", "import", "package", "native", "->", "::"}) {
            boolean found = Pattern.compile(word.matches("\\w+") ? "\\b" + word + "\\b" : Pattern.quote(word)).matcher(text).find();
            must(!found, "the source has " + word);
        }
        must(text.chars().allMatch(c -> c < 128), "the source has a sign above 127");
    }

    private static Set<String> found(String pattern, String text) {
        Set<String> all = new TreeSet<>();
        Matcher m = Pattern.compile(pattern).matcher(text);
        while (m.find()) {
            all.add(m.group(1));
        }
        return all;
    }
}
