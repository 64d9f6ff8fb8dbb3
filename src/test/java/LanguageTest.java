import java.io.IOException;
import java.io.PrintWriter;
import java.io.StringWriter;
import java.lang.reflect.Constructor;
import java.lang.reflect.Field;
import java.lang.reflect.Method;
import java.lang.reflect.Modifier;
import java.nio.file.Files;
import java.nio.file.Path;
import java.util.ArrayList;
import java.util.HashSet;
import java.util.List;
import java.util.Map;
import java.util.Set;
import java.util.TreeMap;
import java.util.TreeSet;
import java.util.regex.Matcher;
import java.util.regex.Pattern;
import java.util.spi.ToolProvider;

/** What can be seen of LANGUAGE.md's rules in the file and in the class, and the document's face. */
public final class LanguageTest {
    private static final Check CHECK = new Check("LanguageTest");
    private static final Path SOURCE = Path.of("src/main/java/MissingMeaning.java");
    private static final Path DOCUMENT = Path.of("../shared/DOC.md");

    public static void main(String[] args) throws IOException {
        String source = Files.readString(SOURCE);
        String bare = stripped(source);
        words(bare);
        methods(bare);
        face(Files.readString(DOCUMENT));
        classes();
        depth();
        for (char c : source.toCharArray()) {
            CHECK.that("a sign from 1 to 127", c > 0 && c < 128);
        }
        CHECK.finish();
    }

    /** Without comments and the insides of texts. */
    private static String stripped(String source) {
        return source.replaceAll("(?s)/\\*.*?\\*/", "").replaceAll("//[^\n]*", "").replaceAll("\"[^\"\n]*\"", "\"\"");
    }

    /** Rules 2 to 6, 10, 12 and 13. */
    private static void words(String bare) {
        String[] never = {"throw", "throws", "try", "catch", "finally", "synchronized", "assert", "package", "native",
            "volatile", "transient", "Object", "System.out", "System.err", "Exact", "var", "yield", "protected",
            "hashCode", "toString", "Thread", "Random"};
        for (String word : never) {
            CHECK.that("no " + word, !Pattern.compile("\\b" + Pattern.quote(word) + "\\b").matcher(bare).find());
        }
        CHECK.that("no lambda", !bare.contains("->"));
        CHECK.that("no method reference", !bare.contains("::"));
        CHECK.that("no annotation", !bare.contains("@"));
        CHECK.that("no join by +", !Pattern.compile("\"\\s*\\+|\\+\\s*\"").matcher(bare).find());
        Matcher imports = Pattern.compile("import ([^;]+);").matcher(bare);
        while (imports.find()) {
            CHECK.that("import " + imports.group(1),
                    List.of("java.util.Arrays", "java.util.ArrayList", "java.util.List").contains(imports.group(1)));
        }
        Matcher made = Pattern.compile("\\bnew\\b").matcher(bare);
        int count = 0;
        while (made.find()) {
            String line = bare.substring(bare.lastIndexOf('\n', made.start()) + 1, bare.indexOf('\n', made.start()));
            boolean atFirst = line.contains("final") || line.matches(" {8,16}[a-z\\[\\]]+ = new .*");
            CHECK.that("made with the object: " + line, atFirst);
            count++;
        }
        CHECK.that("something is made", count > 10);
    }

    /** Rule 11: a method is short. Its head stands on a line that ends in ") {". */
    private static void methods(String bare) {
        String[] lines = bare.split("\n");
        for (int i = 0; i < lines.length; i++) {
            if (!lines[i].matches(" {4,8}[A-Za-z].*\\) \\{") || lines[i].matches(" *(if|for|while|switch|else)\\b.*")) {
                continue;
            }
            String close = lines[i].replaceAll("\\S.*", "") + "}";
            int end = i;
            while (!lines[end].equals(close)) {
                end++;
            }
            CHECK.that("short: " + lines[i], end - i < 60);
        }
    }

    /** Rule 1, and every head of the document's face. */
    private static void face(String document) {
        String face = document.substring(document.indexOf("```java") + 7);
        face = face.substring(0, face.indexOf("```"));
        Set<String> wanted = new TreeSet<>();
        Matcher heads = Pattern.compile("public (int|long) (\\w+)\\(([^)]*)\\);").matcher(face);
        while (heads.find()) {
            String types = heads.group(3).replaceAll("(int|long) \\w+", "$1");
            wanted.add(heads.group(1) + " " + heads.group(2) + "(" + types + ")");
        }
        Set<String> found = new TreeSet<>();
        Set<String> names = new HashSet<>();
        for (Method m : MissingMeaning.class.getDeclaredMethods()) {
            if (Modifier.isPublic(m.getModifiers())) {
                List<String> types = new ArrayList<>();
                for (Class<?> type : m.getParameterTypes()) {
                    types.add(type.getName());
                }
                found.add(m.getReturnType().getName() + " " + m.getName() + "(" + String.join(", ", types) + ")");
                names.add(m.getName());
            } else {
                CHECK.that("private: " + m, Modifier.isPrivate(m.getModifiers()));
            }
        }
        CHECK.that("the face is " + wanted + ", found " + found, wanted.equals(found) && wanted.size() == 72);
        Constructor<?>[] made = MissingMeaning.class.getDeclaredConstructors();
        CHECK.that("one public constructor", made.length == 1 && Modifier.isPublic(made[0].getModifiers()));
        CHECK.that("public and final", Modifier.isFinal(MissingMeaning.class.getModifiers()));
        for (Field f : MissingMeaning.class.getDeclaredFields()) {
            CHECK.that("private or NONE: " + f, f.getName().equals("NONE") || Modifier.isPrivate(f.getModifiers()));
        }
        for (Class<?> c : all()) {
            for (Method m : c.getDeclaredMethods()) {
                boolean ofFace = c == MissingMeaning.class && Modifier.isPublic(m.getModifiers());
                CHECK.that("no private method bears a public one's name: " + m, ofFace || !names.contains(m.getName()));
                CHECK.that("at most seven parameters: " + m, m.getParameterCount() <= 7);
            }
        }
    }

    /** Rules 8 and 11: by the compiled calls, none goes deeper than eight, and none calls itself. */
    private static void depth() {
        Map<String, Set<String>> calls = new TreeMap<>();
        for (Class<?> c : all()) {
            StringWriter text = new StringWriter();
            ToolProvider javap = ToolProvider.findFirst("javap").orElseThrow();
            String path = System.getProperty("java.class.path");
            javap.run(new PrintWriter(text), new PrintWriter(text), "-c", "-p", "-classpath", path, c.getName());
            String own = c.getName();
            String method = "";
            for (String line : text.toString().split("\n")) {
                Matcher head = Pattern.compile("^  [^ ].*?(\\S+)\\(.*\\)( throws .*)?;$").matcher(line);
                Matcher call = Pattern.compile("// Method (?:([\\w/$]+)\\.)?\"?([\\w<>]+)\"?:").matcher(line);
                if (head.find()) {
                    method = head.group(1).equals(own) ? own + ".<init>" : own + "." + head.group(1);
                    calls.put(method, new TreeSet<>());
                } else if (call.find()) {
                    calls.get(method).add((call.group(1) == null ? own : call.group(1)) + "." + call.group(2));
                }
            }
        }
        int deepest = 0;
        for (String method : calls.keySet()) {
            deepest = Math.max(deepest, deepFrom(method, calls, 1));
        }
        System.out.println("LanguageTest: calls go " + deepest + " deep");
        CHECK.that("calls are seen, at most eight deep", deepest >= 4 && deepest <= 8);
    }

    private static int deepFrom(String method, Map<String, Set<String>> calls, int depth) {
        int deepest = depth;
        if (depth < 40) {
            for (String called : calls.getOrDefault(method, Set.of())) {
                deepest = Math.max(deepest, deepFrom(called, calls, depth + 1));
            }
        }
        return deepest;
    }

    private static List<Class<?>> all() {
        List<Class<?>> all = new ArrayList<>(List.of(MissingMeaning.class.getDeclaredClasses()));
        all.add(MissingMeaning.class);
        return all;
    }

    /** Rules 2, 5 and 11. */
    private static void classes() {
        CHECK.that("at most twelve classes", all().size() <= 12);
        for (Class<?> c : all()) {
            CHECK.that("static: " + c, c == MissingMeaning.class || Modifier.isStatic(c.getModifiers()));
            int fields = 0;
            for (Field f : c.getDeclaredFields()) {
                if (Modifier.isStatic(f.getModifiers())) {
                    CHECK.that("a constant: " + f, Modifier.isFinal(f.getModifiers()) && f.getType().isPrimitive());
                } else {
                    fields++;
                }
            }
            CHECK.that("at most twenty fields: " + c, fields <= 20);
        }
    }
}
