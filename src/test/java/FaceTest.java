import java.io.IOException;
import java.lang.reflect.Constructor;
import java.lang.reflect.Field;
import java.lang.reflect.Method;
import java.lang.reflect.Modifier;
import java.nio.file.Files;
import java.nio.file.Path;
import java.util.ArrayList;
import java.util.List;
import java.util.Set;
import java.util.TreeSet;
import java.util.regex.Matcher;
import java.util.regex.Pattern;

/** The class has the face that the document tells, and its source keeps to what ../shared/LANGUAGE.md forbids. */
public final class FaceTest {
    private static final Path SOURCE = Path.of("src/main/java/WalkBench.java");
    private static final Path DOCUMENT = Path.of("../shared/DOC.md");
    private static final int LONGEST_METHOD = 60;
    private static final int MOST_PARAMETERS = 7;
    private static final int MOST_CLASSES = 12;
    private static final int MOST_FIELDS = 20;

    private FaceTest() {
    }

    public static void main(String[] args) throws IOException {
        String source = bare(Files.readString(SOURCE));
        faceIsTheDocuments();
        nothingElseIsSeen();
        wordsThatAreForbidden(source);
        importsThatAreAllowed(source);
        methodsAreShort(source);
        classesAreSmall();
        Check.end();
    }

    /** The source without comments, and with empty texts and signs. */
    private static String bare(String source) {
        String plain = source.replaceAll("(?s)/\\*.*?\\*/", "").replaceAll("//[^\n]*", "");
        return plain.replaceAll("\"[^\"\n]*\"", "\"\"").replaceAll("'[^'\n]+'", "' '");
    }

    private static void faceIsTheDocuments() throws IOException {
        Set<String> due = new TreeSet<>();
        Matcher line = Pattern.compile("\n    public (\\w+) (\\w+)\\((.*?)\\)( throws NoSuchElementException)?;")
            .matcher(Files.readString(DOCUMENT));
        while (line.find()) {
            String types = line.group(3).replaceAll("(\\w+) \\w+", "$1").replace(" ", "");
            due.add(line.group(1) + " " + line.group(2) + "(" + types + ")" + (line.group(4) == null ? "" : line.group(4)));
        }
        Set<String> got = new TreeSet<>();
        for (Method m : WalkBench.class.getDeclaredMethods()) {
            if (Modifier.isPublic(m.getModifiers())) {
                got.add(told(m));
            }
        }
        Check.same("how many methods the document has", due.size(), 37 - 1);
        for (String name : due) {
            Check.holds("the face has " + name, got.contains(name));
        }
        for (String name : got) {
            Check.holds("the document has " + name, due.contains(name));
        }
        Check.holds("the class is final", Modifier.isFinal(WalkBench.class.getModifiers()));
        Constructor<?>[] made = WalkBench.class.getDeclaredConstructors();
        Check.same("one constructor", made.length, 1);
        Check.holds("it is public", Modifier.isPublic(made[0].getModifiers()) && made[0].getParameterCount() == 0);
    }

    private static String told(Method m) {
        List<String> types = new ArrayList<>();
        for (Class<?> type : m.getParameterTypes()) {
            types.add(type.getSimpleName());
        }
        String thrown = m.getExceptionTypes().length > 0 ? " throws " + m.getExceptionTypes()[0].getSimpleName() : "";
        return m.getReturnType().getSimpleName() + " " + m.getName() + "(" + String.join(",", types) + ")" + thrown;
    }

    private static void nothingElseIsSeen() {
        Set<String> face = new TreeSet<>();
        for (Method m : WalkBench.class.getDeclaredMethods()) {
            if (Modifier.isPublic(m.getModifiers())) {
                face.add(m.getName());
            }
        }
        for (Method m : WalkBench.class.getDeclaredMethods()) {
            boolean open = Modifier.isPublic(m.getModifiers());
            Check.holds("private: " + m.getName(), open || Modifier.isPrivate(m.getModifiers()));
            Check.holds("no private one by a public name: " + m.getName(), open || !face.contains(m.getName()));
        }
        for (Field f : WalkBench.class.getDeclaredFields()) {
            Check.holds("private: " + f.getName(), f.getName().equals("NONE") || Modifier.isPrivate(f.getModifiers()));
        }
        for (Class<?> inside : WalkBench.class.getDeclaredClasses()) {
            Check.holds("static: " + inside, Modifier.isStatic(inside.getModifiers()) && !Modifier.isPublic(inside.getModifiers()));
            for (Method m : inside.getDeclaredMethods()) {
                Check.holds("a name of its own: " + m.getName(), !face.contains(m.getName()));
                Check.holds("not seen: " + m.getName(), (m.getModifiers() & (Modifier.PUBLIC | Modifier.PROTECTED)) == 0);
            }
        }
    }

    private static void wordsThatAreForbidden(String source) {
        String[] words = {
            "package ", "->", "::", "synchronized", "assert ", "finally", "protected", "native", "volatile", "transient", "Object",
            "Exact(", "Thread", "System.currentTimeMillis", "System.nanoTime", "System.out", "System.in", "Random", "hashCode",
            "getMessage", "static {", "extends Exception", "extends RuntimeException",
        };
        for (String word : words) {
            Check.holds("the source does without '" + word + "'", !source.contains(word));
        }
        for (String machines : new String[] {"ArrayIndexOutOfBounds", "NullPointer", "ClassCast", "NegativeArraySize", "ArrayStore"}) {
            Check.holds("nothing of the machine's is caught: " + machines, !source.contains(machines));
        }
        Matcher thrown = Pattern.compile("throw (?!new (IllegalState|IllegalArgument|IndexOutOfBounds|Arithmetic|UnsupportedOperation"
            + "|NoSuchElement|Runtime)Exception\\()").matcher(source);
        Check.holds("what is thrown is allowed", !thrown.find());
        Matcher field = Pattern.compile("\n *(private |public )?static (?!final )[\\w\\[\\]]+ \\w+( =|;)").matcher(source);
        Check.holds("static fields are final", !field.find());
        for (int i = 0; i < source.length(); i++) {
            Check.holds("signs are 10 or 32 to 126", source.charAt(i) == '\n' || (source.charAt(i) >= 32 && source.charAt(i) < 127));
        }
    }

    private static void importsThatAreAllowed(String source) {
        Matcher line = Pattern.compile("import ([\\w.]+);").matcher(source);
        Set<String> imports = Set.of("java.util.NoSuchElementException", "java.util.ArrayList", "java.util.List",
            "java.util.Iterator", "java.util.Arrays");
        while (line.find()) {
            Check.holds("import " + line.group(1), imports.contains(line.group(1)));
        }
        Matcher call = Pattern.compile("\\b([A-Z]\\w+)\\.([a-z]\\w*)\\(").matcher(source);
        while (call.find()) {
            String name = call.group(1) + "." + call.group(2);
            boolean own = Pattern.compile("(class|interface|enum|record) " + call.group(1) + "\\b").matcher(source).find();
            boolean library = name.matches("(Math|Integer|Long)\\.\\w+|System\\.arraycopy|Arrays\\.(copyOf|copyOfRange|fill)|List\\.of");
            Check.holds(name, own || library);
        }
    }

    private static void methodsAreShort(String source) {
        String[] lines = source.split("\n");
        int methods = 0;
        for (int i = 0; i < lines.length; i++) {
            Matcher head = Pattern.compile("^( {4}| {8})(?!if |for |while |switch )\\w[\\w\\[\\] ]*\\((.*)\\)[\\w ]*\\{$").matcher(lines[i]);
            if (!head.find()) {
                continue;
            }
            methods++;
            int end = i;
            while (!lines[end].equals(head.group(1) + "}")) {
                end++;
            }
            Check.holds("short enough: " + lines[i].trim(), end - i + 1 <= LONGEST_METHOD);
            Check.holds("few parameters: " + lines[i].trim(), head.group(2).split(",").length <= MOST_PARAMETERS);
        }
        Check.holds("methods were found", methods > 100);
    }

    private static void classesAreSmall() {
        Class<?>[] inside = WalkBench.class.getDeclaredClasses();
        Check.holds("few classes", inside.length + 1 <= MOST_CLASSES);
        Check.holds("few fields", fields(WalkBench.class) <= MOST_FIELDS);
        for (Class<?> c : inside) {
            Check.holds("few fields in " + c, fields(c) <= MOST_FIELDS);
        }
    }

    private static int fields(Class<?> c) {
        int many = 0;
        for (Field f : c.getDeclaredFields()) {
            many += Modifier.isStatic(f.getModifiers()) ? 0 : 1;
        }
        return many;
    }
}
