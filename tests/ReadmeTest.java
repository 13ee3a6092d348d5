import java.io.IOException;
import java.lang.reflect.InvocationTargetException;
import java.lang.reflect.Method;
import java.nio.charset.StandardCharsets;
import java.nio.file.Files;
import java.nio.file.Path;
import java.util.ArrayList;
import java.util.List;
import java.util.Set;
import java.util.TreeSet;
import java.util.regex.Matcher;
import java.util.regex.Pattern;

/**
 * Follows the example of README.md call by call: each line is a call and, behind it, the answer that README.md tells.
 * With the argument "print" it prints the lines with the answers of the class, for those who change the example.
 */
public final class ReadmeTest {
    private static final Pattern LINE = Pattern.compile("(x\\.\\w+|feed|out)\\((.*)\\); +// (.*)");

    private static ShapeLang x;

    public static void main(String[] args) throws IOException {
        Check c = new Check();
        Set<String> told = new TreeSet<>();
        int calls = 0;
        for (String line : example()) {
            Matcher m = LINE.matcher(line);
            if (line.isEmpty() || line.startsWith("//")) {
                show(args, line);
            } else if (line.equals("ShapeLang x = new ShapeLang();")) {
                x = new ShapeLang();
                show(args, line);
            } else if (x != null && m.matches()) {
                String answer = answer(m.group(1), m.group(2));
                c.is(line, answer, m.group(3));
                show(args, String.format("%-47s // %s", m.group(1) + "(" + m.group(2) + ");", answer));
                told.add(m.group(1).replace("x.", ""));
                calls += m.group(1).equals("feed") ? m.group(2).length() / 8 + 1 : m.group(1).equals("out") ? 20 : 1;
            } else {
                c.is("a line of the example", line, "a call with its answer");
            }
        }
        for (Method method : ShapeLang.class.getDeclaredMethods()) {
            if (java.lang.reflect.Modifier.isPublic(method.getModifiers())) {
                c.is("the example has a call of " + method.getName(), told.contains(method.getName()) ? 1 : 0, 1);
            }
        }
        c.is("the example keeps to 512 calls", calls <= 512 ? 1 : 0, 1);
        c.end("ReadmeTest");
    }

    private static void show(String[] args, String line) {
        if (args.length > 0) {
            System.out.println(line);
        }
    }

    /** The lines of the block of code that makes the object. */
    private static List<String> example() throws IOException {
        List<String> lines = new ArrayList<>();
        boolean inside = false;
        for (String line : Files.readAllLines(Path.of("README.md"), StandardCharsets.UTF_8)) {
            inside = inside ? !line.equals("```") : line.startsWith("ShapeLang x");
            if (inside) {
                lines.add(line.trim());
            }
        }
        return lines;
    }

    private static String answer(String name, String arguments) {
        if (name.equals("feed")) {
            int bytes = 0;
            String text = arguments.substring(arguments.indexOf('"') + 1, arguments.lastIndexOf('"'));
            for (int i = 0; i < text.length(); i += 8) {
                String piece = text.substring(i, Math.min(i + 8, text.length()));
                long word = 0;
                for (int k = 0; k < piece.length(); k++) {
                    word |= (long) piece.charAt(k) << (8 * k);
                }
                bytes = x.feed(word, piece.length());
            }
            return "" + bytes;
        }
        return name.equals("out") ? Check.out(x) : call(name.substring(2), arguments);
    }

    private static String call(String name, String arguments) {
        String[] told = arguments.isEmpty() ? new String[0] : arguments.split(", *");
        for (Method method : ShapeLang.class.getDeclaredMethods()) {
            if (method.getName().equals(name)) {
                Object[] given = new Object[told.length];
                for (int i = 0; i < told.length; i++) {
                    long number = number(told[i]);
                    given[i] = method.getParameterTypes()[i] == long.class ? (Object) number : (Object) (int) number;
                }
                try {
                    Object answer = method.invoke(x, given);
                    return name.equals("word") ? String.format("0x%xL", (Long) answer) : "" + answer;
                } catch (InvocationTargetException thrown) {
                    return "throws " + thrown.getCause().getClass().getSimpleName();
                } catch (IllegalAccessException hidden) {
                    return "is hidden";
                }
            }
        }
        return "there is no such call";
    }

    private static long number(String told) {
        if (told.startsWith("ShapeLang.")) {
            try {
                return ShapeLang.class.getField(told.substring("ShapeLang.".length())).getInt(null);
            } catch (ReflectiveOperationException missing) {
                throw new IllegalStateException(told);
            }
        }
        return told.startsWith("0x") ? Long.parseUnsignedLong(told.substring(2, told.length() - 1), 16) : Long.parseLong(told);
    }
}
