import java.lang.reflect.Constructor;
import java.lang.reflect.Field;
import java.lang.reflect.Method;
import java.lang.reflect.Modifier;
import java.nio.file.Files;
import java.nio.file.Path;
import java.util.ArrayList;
import java.util.List;
import java.util.Set;
import java.util.TreeSet;
import java.util.regex.Matcher;
import java.util.regex.Pattern;

/** Those rules of ../shared/LANGUAGE.md that a machine can look for in the class and its source. */
public final class LanguageRules {
    private static final Path SOURCE = Path.of("src/main/java/SilkHouse.java");
    private static final Path DOCUMENT = Path.of("../shared/DOC.md");
    private static int wrong = 0;

    private static void require(boolean holds, String rule) {
        if (!holds) {
            wrong++;
            System.out.println("broken: " + rule);
        }
    }

    /** The face as the document writes it, without the names of parameters. */
    private static Set<String> promisedFace() throws Exception {
        Set<String> face = new TreeSet<>();
        Matcher calls = Pattern.compile("    public (int|long) (\\w+)\\(([^)]*)\\);").matcher(Files.readString(DOCUMENT));
        while (calls.find()) {
            String types = calls.group(3).replaceAll(" \\w+(,|$)", "$1");
            face.add(calls.group(1) + " " + calls.group(2) + "(" + types + ")");
        }
        return face;
    }

    private static void checkFace() throws Exception {
        Set<String> face = new TreeSet<>();
        for (Method m : SilkHouse.class.getDeclaredMethods()) {
            if (Modifier.isPublic(m.getModifiers())) {
                List<String> types = new ArrayList<>();
                for (Class<?> type : m.getParameterTypes()) {
                    types.add(type.getName());
                }
                face.add(m.getReturnType().getName() + " " + m.getName() + "(" + String.join(", ", types) + ")");
            } else {
                require(Modifier.isPrivate(m.getModifiers()), "1, " + m + " is not private");
            }
        }
        require(face.size() == 38, "1, the document has 38 calls, the class " + face.size());
        require(face.equals(promisedFace()), "1, the face is " + face + " and not " + promisedFace());
        Set<String> constants = new TreeSet<>();
        for (Field f : SilkHouse.class.getDeclaredFields()) {
            if (!Modifier.isPrivate(f.getModifiers())) {
                constants.add(f.getName());
            }
        }
        require(constants.equals(Set.of("NONE", "UNKNOWN", "OUTSIDE", "NOT", "FULL")), "1, constants " + constants);
        Constructor<?>[] made = SilkHouse.class.getDeclaredConstructors();
        require(made.length == 1 && Modifier.isPublic(made[0].getModifiers()), "1, the constructor");
        require(Modifier.isFinal(SilkHouse.class.getModifiers()), "1, the class is final");
    }

    private static void checkClass(Class<?> one, Set<String> publicNames) {
        if (one != SilkHouse.class) {
            require(Modifier.isStatic(one.getModifiers()), "2, " + one + " is not static");
            require(!Modifier.isPublic(one.getModifiers()), "1, " + one + " is public");
        }
        int fields = 0;
        for (Field f : one.getDeclaredFields()) {
            if (Modifier.isStatic(f.getModifiers())) {
                require(Modifier.isFinal(f.getModifiers()), "5, " + f + " is not final");
            } else {
                fields++;
            }
        }
        require(fields <= 20, "11, " + one + " has " + fields + " fields");
        for (Method m : one.getDeclaredMethods()) {
            require(m.getParameterCount() <= 7, "11, " + m + " has more than seven parameters");
            require(!m.isSynthetic(), "2, " + m + " was made by the compiler");
            boolean hidden = one != SilkHouse.class || Modifier.isPrivate(m.getModifiers());
            require(!hidden || !publicNames.contains(m.getName()), "1, " + m + " bears the name of a public one");
        }
    }

    private static void checkClasses() {
        Set<String> publicNames = new TreeSet<>();
        for (Method m : SilkHouse.class.getDeclaredMethods()) {
            if (Modifier.isPublic(m.getModifiers())) {
                publicNames.add(m.getName());
            }
        }
        Class<?>[] inside = SilkHouse.class.getDeclaredClasses();
        require(inside.length + 1 <= 12, "11, " + (inside.length + 1) + " classes");
        checkClass(SilkHouse.class, publicNames);
        for (Class<?> one : inside) {
            checkClass(one, publicNames);
        }
    }

    private static void checkSource() throws Exception {
        String source = Files.readString(SOURCE);
        String code = source.replaceAll("(?s)/\\*.*?\\*/", "").replaceAll("//[^\n]*", "");
        String bare = code.replaceAll("\"[^\"]*\"", "\"\"").replaceAll("'.'", "' '");
        for (String word : List.of("throw", "throws", "try", "catch", "synchronized", "assert", "import", "package",
                "instanceof", "hashCode", "toString", "equals", "Object", "double", "float", "Exact")) {
            require(!Pattern.compile("\\b" + word + "\\b").matcher(bare).find(), "the word " + word);
        }
        require(!bare.contains("->") && !bare.contains("::"), "2, a lambda or a method reference");
        Matcher calls = Pattern.compile("\\b(Math|Integer|Long|System|Arrays)\\.(\\w+)").matcher(bare);
        while (calls.find()) {
            require(Set.of("max", "min", "abs", "bitCount", "arraycopy").contains(calls.group(2)), "4, " + calls.group());
        }
        for (int k = 0; k < source.length(); k++) {
            require(source.charAt(k) < 128, "4, a sign above 127 in the source");
        }
        checkLengths(source.split("\n"));
    }

    private static void checkLengths(String[] lines) {
        int start = -1;
        String indent = "";
        for (int k = 0; k < lines.length; k++) {
            Matcher head = Pattern.compile("^((?: {4}){1,2})(?!.*\\b(class|new|return)\\b)[^ /*}].*\\) \\{$").matcher(lines[k]);
            if (head.find() && start < 0) {
                start = k;
                indent = head.group(1);
            } else if (start >= 0 && lines[k].equals(indent + "}")) {
                require(k - start < 60, "11, a long method at line " + (start + 1));
                start = -1;
            }
        }
    }

    public static void main(String[] args) throws Exception {
        checkFace();
        checkClasses();
        checkSource();
        System.out.println(wrong == 0 ? "the rules of the language hold" : wrong + " rules are broken");
        if (wrong != 0) {
            System.exit(1);
        }
    }
}
