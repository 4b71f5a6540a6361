import java.io.IOException;
import java.lang.reflect.InvocationTargetException;
import java.lang.reflect.Method;
import java.lang.reflect.Modifier;
import java.nio.file.Files;
import java.nio.file.Path;
import java.util.Set;
import java.util.TreeSet;
import java.util.regex.Matcher;
import java.util.regex.Pattern;

/** Plays the example of README.md: each call answers what stands behind it, and each call of the face is there. */
public final class ParserparkReadme {
    private static final Pattern BLOCK = Pattern.compile("```java\n(.*?)```", Pattern.DOTALL);
    private static final Pattern CALL = Pattern.compile(
            "(?:int (\\w+) = )?workshop\\.(\\w+)\\((.*?)\\); +// ([^,]+).*");

    private static final Parserpark WORKSHOP = new Parserpark();
    private static final Set<String> PLAYED = new TreeSet<>();
    private static String textName = "";
    private static int textNumber = 0;
    private static int wrong = 0;

    public static void main(String[] args) throws IOException {
        Matcher block = BLOCK.matcher(Files.readString(Path.of("README.md")));
        String[] lines = block.find() ? block.group(1).split("\n") : new String[] {""};
        if (!lines[0].equals("Parserpark workshop = new Parserpark();")) {
            complain("the example does not begin with an object");
        }
        for (int i = 1; i < lines.length; i++) {
            playLine(lines[i]);
        }
        for (Method method : Parserpark.class.getDeclaredMethods()) {
            if (Modifier.isPublic(method.getModifiers()) && !PLAYED.contains(method.getName())) {
                complain("no such call in the example: " + method.getName());
            }
        }
        System.out.println((lines.length - 1) + " calls of README.md, " + wrong + " wrong");
        if (wrong != 0) {
            System.exit(1);
        }
    }

    private static void complain(String what) {
        wrong++;
        System.out.println(what);
    }

    private static void playLine(String line) {
        Matcher call = CALL.matcher(line);
        if (!call.matches()) {
            complain("no call with an answer: " + line);
            return;
        }
        Object answer = answer(call.group(2), call.group(3));
        if (call.group(1) != null && answer instanceof Integer number) {
            textName = call.group(1);
            textNumber = number;
        }
        String got = answer instanceof Character ? "'" + answer + "'" : "" + answer;
        if (!got.equals(call.group(4).trim())) {
            complain("answered " + got + ": " + line);
        }
    }

    /** The call's answer, or the name of the exception that it throws. */
    private static Object answer(String name, String arguments) {
        for (Method method : Parserpark.class.getDeclaredMethods()) {
            if (method.getName().equals(name) && Modifier.isPublic(method.getModifiers())) {
                PLAYED.add(name);
                try {
                    return method.invoke(WORKSHOP, numbers(arguments));
                } catch (InvocationTargetException e) {
                    return e.getCause().getClass().getSimpleName();
                } catch (IllegalAccessException e) {
                    throw new IllegalStateException(e);
                }
            }
        }
        return "no such call";
    }

    private static Object[] numbers(String arguments) {
        String[] words = arguments.isEmpty() ? new String[0] : arguments.split(", ");
        Object[] numbers = new Object[words.length];
        for (int i = 0; i < words.length; i++) {
            numbers[i] = number(words[i]);
        }
        return numbers;
    }

    private static int number(String word) {
        if (word.equals("Parserpark.NONE")) {
            return Parserpark.NONE;
        }
        return word.equals(textName) ? textNumber : Integer.parseInt(word);
    }
}
