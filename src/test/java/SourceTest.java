import java.io.IOException;
import java.lang.reflect.Constructor;
import java.lang.reflect.Field;
import java.lang.reflect.Method;
import java.lang.reflect.Modifier;
import java.nio.file.Files;
import java.nio.file.Path;
import java.util.ArrayList;
import java.util.List;
import java.util.Set;
import java.util.TreeSet;
import java.util.regex.Matcher;
import java.util.regex.Pattern;

/** The document's face, and those rules of LANGUAGE.md that can be seen in the text or the class. */
public final class SourceTest {
    private static final Path SOURCE = Path.of("src/main/java/HoopCabinet.java");

    public static void main(String[] args) throws IOException {
        String shared = args.length > 0 ? args[0] : "../shared";
        face(Files.readString(Path.of(shared, "DOC.md")));
        members();
        String text = Files.readString(SOURCE);
        words(bare(text));
        lengths(text);
        edges();
        Check.finish("SourceTest");
    }

    /** The public members are those of the document, and no others. */
    private static void face(String doc) {
        Set<String> want = new TreeSet<>();
        Matcher line = Pattern.compile("public (int|long) (\\w+)\\(([^)]*)\\);").matcher(doc);
        while (line.find()) {
            want.add(line.group(1) + " " + line.group(2) + "(" + line.group(3).replaceAll(" \\w+(,|$)", "$1").trim() + ")");
        }
        Set<String> have = new TreeSet<>();
        for (Method method : HoopCabinet.class.getDeclaredMethods()) {
            if (Modifier.isPublic(method.getModifiers())) {
                List<String> types = new ArrayList<>();
                for (Class<?> type : method.getParameterTypes()) {
                    types.add(type.getName());
                }
                have.add(method.getReturnType() + " " + method.getName() + "(" + String.join(", ", types) + ")");
            } else {
                Check.right(method + " is not private", Modifier.isPrivate(method.getModifiers()));
            }
        }
        Check.due("methods of the document", want.size(), 72);
        Check.right("the face is " + have + ", not " + want, have.equals(want));
        Constructor<?>[] made = HoopCabinet.class.getDeclaredConstructors();
        Check.due("constructors", made.length, 1);
        Check.right("the constructor is public and takes nothing",
            Modifier.isPublic(made[0].getModifiers()) && made[0].getParameterCount() == 0);
        for (Field field : HoopCabinet.class.getDeclaredFields()) {
            boolean isNone = field.getName().equals("NONE");
            Check.right(field + " is visible", isNone ? Modifier.isPublic(field.getModifiers()) : Modifier.isPrivate(field.getModifiers()));
        }
        Check.right("the class is final", Modifier.isFinal(HoopCabinet.class.getModifiers()));
    }

    /** Rules 1, 2, 5 and 11. */
    private static void members() {
        Set<String> open = new TreeSet<>();
        for (Method method : HoopCabinet.class.getMethods()) {
            open.add(method.getName());
        }
        List<Class<?>> classes = new ArrayList<>(List.of(HoopCabinet.class.getDeclaredClasses()));
        for (Class<?> inside : classes) {
            Check.right(inside + " is not static", Modifier.isStatic(inside.getModifiers()));
            Check.right(inside + " is public", !Modifier.isPublic(inside.getModifiers()) && !Modifier.isProtected(inside.getModifiers()));
        }
        classes.add(HoopCabinet.class);
        Check.right("too many classes", classes.size() <= 12);
        for (Class<?> one : classes) {
            int fields = 0;
            for (Field field : one.getDeclaredFields()) {
                boolean isStatic = Modifier.isStatic(field.getModifiers());
                Check.right(field + " is static and not final", !isStatic || Modifier.isFinal(field.getModifiers()));
                fields += isStatic ? 0 : 1;
            }
            Check.right(one + " has too many fields", fields <= 20);
            for (Method method : one.getDeclaredMethods()) {
                Check.right(method + " takes too many", method.getParameterCount() <= 7);
                Check.right(method + " bears a public name", Modifier.isPublic(method.getModifiers()) || !open.contains(method.getName()));
            }
        }
    }

    /** Without comments, texts and signs in quotes. */
    private static String bare(String text) {
        return text.replaceAll("(?s)/\\*.*?\\*/", "").replaceAll("//[^\n]*", "")
            .replaceAll("\"[^\"\n]*\"", "\"\"").replaceAll("'[^'\n]+'", "' '");
    }

    /** Rules 3, 4, 6 and 13. */
    private static void words(String text) {
        String[] unwanted = {"throw", "throws", "try", "catch", "finally", "synchronized", "assert", "package", "native",
            "volatile", "protected", "var", "Object", "System\\.out", "System\\.nano\\w*", "System\\.current\\w*", "Random",
            "Exact", "hashCode", "toString", "String\\.format", "yield"};
        for (String word : unwanted) {
            Check.right("the text has " + word, !Pattern.compile("\\b" + word + "\\b").matcher(text).find());
        }
        Check.right("a lambda or a method reference", !text.contains("->") && !text.contains("::"));
        Check.right("an array of three dimensions", !text.contains("[][][]"));
        Matcher imports = Pattern.compile("import ([\\w.]+);").matcher(text);
        while (imports.find()) {
            Check.right("import of " + imports.group(1), Set.of("java.util.Arrays", "java.util.ArrayList", "java.util.List").contains(imports.group(1)));
        }
        Matcher calls = Pattern.compile("\\b(Arrays|System|Math|Integer|Long)\\.(\\w+)").matcher(text);
        Set<String> allowed = Set.of("Arrays.fill", "Arrays.copyOf", "Arrays.copyOfRange", "System.arraycopy",
            "Math.max", "Math.min", "Math.abs", "Integer.bitCount");
        while (calls.find()) {
            boolean isImport = text.startsWith("java.util.", Math.max(0, calls.start() - 10));
            Check.right("call of " + calls.group(), isImport || allowed.contains(calls.group()));
        }
    }

    /** Rule 11: a method has some sixty lines at most. A member starts at four or eight blanks and ends there. */
    private static void lengths(String text) {
        String[] lines = text.split("\n");
        for (int i = 0; i < lines.length; i++) {
            Matcher start = Pattern.compile("^(    |        )\\w.*\\) \\{$").matcher(lines[i]);
            if (start.find()) {
                int end = i;
                while (end < lines.length && !lines[end].equals(start.group(1) + "}")) {
                    end++;
                }
                Check.right("a long method: " + lines[i], end - i <= 60);
            }
            Check.right("a long line: " + (i + 1), lines[i].length() <= 130);
        }
    }

    /** Every promise is named, by its number, in a test of boundary cases. */
    private static void edges() throws IOException {
        Set<Integer> named = new TreeSet<>();
        for (String name : List.of("Bounds", "TextEdge", "FloorEdge", "NoteEdge", "HouseEdge", "ActEdge", "SlotEdge")) {
            String text = Files.readString(Path.of("src/test/java", name + "Test.java"));
            Matcher label = Pattern.compile("\\(\"([0-9]+)(:| \\w+\")").matcher(text);
            while (label.find()) {
                named.add(Integer.parseInt(label.group(1)));
            }
        }
        for (int promise = 1; promise <= 73; promise++) {
            Check.right("promise " + promise + " has no boundary case of its own", named.contains(promise));
        }
    }
}
