import java.io.DataInputStream;
import java.io.IOException;
import java.io.InputStream;
import java.lang.reflect.Field;
import java.lang.reflect.Modifier;
import java.nio.file.Files;
import java.nio.file.Path;
import java.util.ArrayList;
import java.util.List;
import java.util.Map;
import java.util.Set;
import java.util.TreeMap;
import java.util.TreeSet;
import java.util.regex.Matcher;
import java.util.regex.Pattern;

/** The rules of LANGUAGE.md that the class's source and its compiled form show. */
public final class LanguageTest {
    private static final int LONGEST_METHOD = 60;
    private static final int DEEPEST_CALLS = 8;
    // Rule 4, but only as much of it as the class needs; what is allowed there too may be added.
    private static final Set<String> LIBRARY = Set.of("Object.<init>", "String.length", "String.charAt",
        "ArrayList.<init>", "ArrayList.add", "ArrayList.get", "ArrayList.size", "Integer.bitCount", "Math.abs",
        "Math.max", "Math.min", "System.arraycopy", "Arrays.fill", "Arrays.copyOf", "Arrays.copyOfRange");
    private static final Set<String> LIBRARY_TYPES = Set.of("String", "StringBuilder", "ArrayList", "List", "Arrays",
        "Integer", "Long", "Math", "System");
    private static final Set<Class<?>> CONSTANTS = Set.of(int.class, long.class, boolean.class, char.class,
        String.class, int[].class, long[].class, char[].class, byte[].class);

    private static void must(boolean holds, String what) {
        if (!holds) {
            Check.fail("does not hold: " + what);
        }
    }

    private static List<Class<?>> classes() {
        List<Class<?>> all = new ArrayList<>(List.of(HedgeCourt.class.getDeclaredClasses()));
        all.add(HedgeCourt.class);
        return all;
    }

    /** The source without its comments, and with nothing in its texts and signs. */
    private static String codeOf(String text) {
        return text.replaceAll("(?s)/\\*.*?\\*/", "").replaceAll("//[^\n]*", "")
            .replaceAll("\"[^\"\n]*\"", "\"\"").replaceAll("'[^'\n]+'", "' '");
    }

    private static void noneOf(String code, String pattern, String rule) {
        Matcher found = Pattern.compile(pattern).matcher(code);
        while (found.find()) {
            must(false, rule + ": the source has no '" + found.group() + "'");
        }
    }

    private static void words(String code) {
        noneOf(code, "\\b(throw|throws|try|catch|synchronized|assert)\\b", "rule 6");
        noneOf(code, "\\b(protected|package|native|transient|volatile|strictfp)\\b", "rule 1");
        noneOf(code, "->|::", "rule 2");
        noneOf(code, "\\b(var|instanceof|hashCode|toString|equals)\\b", "rules 3 and 6, of what the class does without");
        noneOf(code, "\\w+Exact\\b", "rule 4");
        noneOf(code, "\\b(Integer|Long|Math|Arrays|System|String)\\.\\w+\\b(?!\\()", "rule 4, functions alone");
        Matcher imported = Pattern.compile("import\\s+([\\w.*]+);").matcher(code);
        while (imported.find()) {
            must(imported.group(1).matches("java\\.util\\.(ArrayList|Arrays|List)"), "no import of " + imported.group(1));
        }
    }

    private static void types(String code) {
        Set<String> known = new TreeSet<>(LIBRARY_TYPES);
        for (Class<?> c : classes()) {
            known.add(c.getSimpleName());
        }
        Matcher named = Pattern.compile("\\b[A-Z][A-Za-z0-9]*[a-z][A-Za-z0-9]*\\b").matcher(code);
        while (named.find()) {
            must(known.contains(named.group()), "rule 3: " + named.group() + " is a type of the language");
        }
        for (Class<?> c : classes()) {
            for (Field f : c.getDeclaredFields()) {
                fieldType(f);
            }
        }
    }

    private static void fieldType(Field f) {
        Class<?> type = f.getType();
        if (Modifier.isStatic(f.getModifiers())) {
            must(Modifier.isFinal(f.getModifiers()) && CONSTANTS.contains(type), "rule 5: " + f + " is a constant");
        }
        if (type.isArray() && type.getComponentType().isArray()) {
            Class<?> inner = type.getComponentType().getComponentType();
            must(inner.isPrimitive() && inner != boolean.class, "rule 3: " + f + " has numbers in two dimensions");
        }
    }

    /** What the compiled class calls outside itself, read off the table of names that stands ahead in its file. */
    private static void library(Class<?> c) throws IOException {
        String file = c.getName() + ".class";
        try (InputStream in = c.getResourceAsStream(file)) {
            DataInputStream data = new DataInputStream(in);
            data.readInt();
            data.readInt();
            int count = data.readUnsignedShort();
            String[] text = new String[count];
            int[][] link = new int[count][];
            List<int[]> calls = new ArrayList<>();
            for (int i = 1; i < count; i++) {
                int tag = data.readUnsignedByte();
                must(tag != 15 && tag != 16 && tag != 17 && tag != 18, "rules 2 and 10: no lambda or joined text in " + c);
                switch (tag) {
                    case 1 -> text[i] = data.readUTF();
                    case 7, 8, 16, 19, 20 -> link[i] = new int[] {data.readUnsignedShort()};
                    case 15 -> data.skipBytes(3);
                    case 5, 6 -> data.skipBytes(8);
                    case 3, 4 -> data.skipBytes(4);
                    default -> link[i] = new int[] {data.readUnsignedShort(), data.readUnsignedShort()};
                }
                if (tag >= 9 && tag <= 11) {
                    calls.add(link[i]);
                }
                i += tag == 5 || tag == 6 ? 1 : 0;
            }
            for (int[] call : calls) {
                String owner = text[link[call[0]][0]];
                String member = owner.substring(owner.lastIndexOf('/') + 1) + "." + text[link[call[1]][0]];
                must(owner.startsWith("HedgeCourt") || LIBRARY.contains(member), "rule 4: " + member + " is told there");
            }
        }
    }

    /** Each method's body by its name; those of one name, in classes of their own, are taken together. */
    private static Map<String, String> methods(String code) {
        Map<String, String> bodies = new TreeMap<>();
        Matcher head = Pattern.compile("(?m)^( {4}| {8})(?!return|else|new| )[\\w<>\\[\\] ]*?\\b(\\w+)\\([^()]*\\) \\{$").matcher(code);
        while (head.find()) {
            int end = code.indexOf("\n" + head.group(1) + "}\n", head.end());
            if (head.group(2).matches("if|for|while|switch|do")) {
                continue;
            }
            must(end > 0, "the end of " + head.group(2) + " is found");
            String body = code.substring(head.end(), Math.max(head.end(), end));
            int lines = body.split("\n", -1).length;
            must(lines <= LONGEST_METHOD, "rule 11: " + head.group(2) + " has " + lines + " lines");
            bodies.merge(head.group(2), body, (one, other) -> one + "\n" + other);
        }
        return bodies;
    }

    private static int depthOf(String method, Map<String, String> bodies, List<String> open) {
        if (open.contains(method)) {
            must(false, "rule 8: " + method + " calls itself by " + open);
            return 0;
        }
        open.add(method);
        int deepest = 0;
        Matcher call = Pattern.compile("\\b(\\w+)\\(").matcher(bodies.get(method));
        while (call.find()) {
            if (bodies.containsKey(call.group(1))) {
                deepest = Math.max(deepest, depthOf(call.group(1), bodies, open));
            }
        }
        open.remove(method);
        return deepest + 1;
    }

    private static void methodsAreSmall(String code) {
        Map<String, String> bodies = methods(code);
        Set<String> declared = new TreeSet<>();
        for (Class<?> c : classes()) {
            for (java.lang.reflect.Method m : c.getDeclaredMethods()) {
                declared.add(m.getName());
            }
        }
        must(bodies.keySet().containsAll(declared), "all methods are found in the source");
        for (String method : bodies.keySet()) {
            int depth = depthOf(method, bodies, new ArrayList<>());
            must(depth <= DEEPEST_CALLS, "rule 11: calls from " + method + " go " + depth + " deep");
        }
    }

    public static void main(String[] args) throws IOException {
        Check.about("LANGUAGE.md");
        String text = Files.readString(Path.of("src/main/java/HedgeCourt.java"));
        must(text.chars().allMatch(sign -> sign == '\n' || sign >= 32 && sign < 127), "plain signs alone");
        String code = codeOf(text);
        words(code);
        types(code);
        methodsAreSmall(code);
        for (Class<?> c : classes()) {
            library(c);
        }
        Check.finish("the class keeps to the language");
    }
}
