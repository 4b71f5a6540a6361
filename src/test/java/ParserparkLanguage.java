import java.io.IOException;
import java.lang.reflect.Constructor;
import java.lang.reflect.Field;
import java.lang.reflect.Method;
import java.lang.reflect.Modifier;
import java.nio.file.Files;
import java.nio.file.Path;
import java.util.ArrayList;
import java.util.Arrays;
import java.util.List;
import java.util.Set;
import java.util.TreeSet;
import java.util.regex.Matcher;
import java.util.regex.Pattern;

/** Looks at the face of the class, and at those rules of LANGUAGE.md that can be seen from outside or in the words. */
public final class ParserparkLanguage {
    private static final Path SOURCE = Path.of("src", "main", "java", "Parserpark.java");
    private static final Path DOCUMENT = Path.of("..", "shared", "DOC.md");
    private static final Set<String> IMPORTS = Set.of("java.util.Arrays", "java.util.NoSuchElementException");
    private static final String[] BANNED = {
        "->", "::", "finally", "synchronized", "assert\\b", "try\\b", "catch\\b", "Exact\\(", "System\\.(?!arraycopy)",
        "Random", "Thread", "Object\\b", "instanceof", "getMessage", "hashCode", "toString", "static \\{",
    };
    private static final int MOST_METHOD_LINES = 60;
    private static final int MOST_PARAMETERS = 7;
    private static final int MOST_FIELDS = 20;
    private static final int MOST_CLASSES = 12;

    private static int wrong = 0;

    public static void main(String[] args) throws IOException {
        String source = Files.readString(SOURCE);
        face(Files.readString(DOCUMENT));
        hiddenMembers();
        nestedClasses();
        words(source);
        methodLengths(source);
        System.out.println("the face and the language: " + wrong + " wrong");
        if (wrong != 0) {
            System.exit(1);
        }
    }

    private static void check(boolean holds, String what) {
        if (!holds) {
            wrong++;
            System.out.println(what);
        }
    }

    private static String names(Class<?>[] classes) {
        List<String> names = new ArrayList<>();
        for (Class<?> c : classes) {
            names.add(c.getSimpleName());
        }
        return String.join(",", names);
    }

    /** The lines of the document's face, such as "int trees(int) IndexOutOfBoundsException", against the class. */
    private static void face(String document) {
        Set<String> want = new TreeSet<>();
        Matcher line = Pattern.compile("public (\\w+) (\\w+)\\(([^)]*)\\)(?: throws ([\\w, ]+))?;").matcher(document);
        while (line.find()) {
            List<String> types = new ArrayList<>();
            for (String parameter : line.group(3).split(", ")) {
                types.add(parameter.split(" ")[0]);
            }
            String thrown = line.group(4) == null ? "" : line.group(4).replace(", ", ",");
            want.add(line.group(1) + " " + line.group(2) + "(" + String.join(",", types) + ") " + thrown);
        }
        Set<String> got = new TreeSet<>();
        for (Method method : Parserpark.class.getDeclaredMethods()) {
            if (Modifier.isPublic(method.getModifiers())) {
                got.add(method.getReturnType().getSimpleName() + " " + method.getName() + "("
                        + names(method.getParameterTypes()) + ") " + names(method.getExceptionTypes()));
            }
        }
        check(want.size() == 28, "the document's face has " + want.size() + " methods");
        check(want.equals(got), "the face is " + got + ", due is " + want);
        check(Modifier.isFinal(Parserpark.class.getModifiers()), "the class is not final");
        Constructor<?>[] constructors = Parserpark.class.getDeclaredConstructors();
        check(constructors.length == 1 && Modifier.isPublic(constructors[0].getModifiers())
                && constructors[0].getParameterCount() == 0, "there is not just the one constructor");
    }

    private static void hiddenMembers() {
        Set<String> publicNames = new TreeSet<>();
        for (Method method : Parserpark.class.getMethods()) {
            publicNames.add(method.getName());
        }
        for (Method method : Parserpark.class.getDeclaredMethods()) {
            int kind = method.getModifiers();
            check(Modifier.isPublic(kind) || Modifier.isPrivate(kind), method + " is neither public nor private");
            check(!Modifier.isPrivate(kind) || !publicNames.contains(method.getName()), method + " bears a public name");
            check(method.getParameterCount() <= MOST_PARAMETERS, method + " takes too many parameters");
        }
        for (Class<?> nested : Parserpark.class.getDeclaredClasses()) {
            for (Method method : nested.getDeclaredMethods()) {
                check(!publicNames.contains(method.getName()), method + " bears a public name");
                check(method.getParameterCount() <= MOST_PARAMETERS, method + " takes too many parameters");
            }
        }
    }

    private static void nestedClasses() {
        List<Class<?>> all = new ArrayList<>(Arrays.asList(Parserpark.class.getDeclaredClasses()));
        for (Class<?> nested : all) {
            int kind = nested.getModifiers();
            check(Modifier.isStatic(kind) && !Modifier.isPublic(kind) && !Modifier.isProtected(kind),
                    nested + " is not static, or seen from outside");
        }
        all.add(Parserpark.class);
        check(all.size() <= MOST_CLASSES, all.size() + " classes");
        for (Class<?> c : all) {
            int fields = 0;
            for (Field field : c.getDeclaredFields()) {
                int kind = field.getModifiers();
                boolean constant = Modifier.isStatic(kind) && Modifier.isFinal(kind);
                fields += constant ? 0 : 1;
                check(!Modifier.isStatic(kind) || constant, field + " is static and not final");
                boolean face = field.getName().equals("NONE");
                check(c != Parserpark.class || face == Modifier.isPublic(kind), field + " is public and should not be");
                check(c != Parserpark.class || face || Modifier.isPrivate(kind), field + " is not private");
            }
            check(fields <= MOST_FIELDS, c + " has " + fields + " fields");
        }
    }

    private static void words(String source) {
        String code = source.replaceAll("(?s)/\\*.*?\\*/", "").replaceAll("//[^\n]*", "");
        for (String banned : BANNED) {
            boolean word = Character.isLetter(banned.charAt(0));
            check(!Pattern.compile(word ? "\\b" + banned : banned).matcher(code).find(), banned + " is used");
        }
        Matcher line = Pattern.compile("import ([^;]+);").matcher(code);
        while (line.find()) {
            check(IMPORTS.contains(line.group(1)), line.group(1) + " is imported");
        }
        check(!code.contains("package "), "there is a package line");
        for (int i = 0; i < source.length(); i++) {
            check(source.charAt(i) < 127, "a sign beyond 126 at " + i);
        }
    }

    private static void methodLengths(String source) {
        String[] lines = source.split("\n");
        int start = -1;
        for (int i = 0; i < lines.length; i++) {
            boolean opens = lines[i].matches(" {4}( {4})?[a-zA-Z].*\\(.*[^;]");
            start = opens ? i : start;
            boolean closes = lines[i].matches(" {4}( {4})?\\}");
            check(!closes || start < 0 || i - start <= MOST_METHOD_LINES, "a long method at line " + (start + 1));
            start = closes ? -1 : start;
        }
    }
}
