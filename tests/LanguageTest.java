import java.io.DataInputStream;
import java.io.IOException;
import java.io.InputStream;
import java.lang.reflect.Array;
import java.lang.reflect.Field;
import java.lang.reflect.Method;
import java.lang.reflect.Modifier;
import java.nio.charset.StandardCharsets;
import java.nio.file.Files;
import java.nio.file.Path;
import java.util.ArrayDeque;
import java.util.ArrayList;
import java.util.Collections;
import java.util.Deque;
import java.util.IdentityHashMap;
import java.util.List;
import java.util.Set;
import java.util.regex.Matcher;
import java.util.regex.Pattern;

/** Those rules of ../shared/LANGUAGE.md that can be seen from the text of the class, from its bytecode, or by reflection. */
public final class LanguageTest {
    private static final Set<String> CALLS = Set.of(
        "String.length", "String.charAt", "String.isEmpty", "String.equals", "String.indexOf", "String.substring", "String.toCharArray",
        "Integer.compare", "Integer.max", "Integer.min", "Integer.bitCount", "Long.compare", "Long.max", "Long.min", "Long.bitCount",
        "Math.max", "Math.min", "Math.abs", "Math.floorDiv", "Math.floorMod",
        "System.arraycopy", "Arrays.copyOf", "Arrays.copyOfRange", "Arrays.fill", "Object.<init>",
        "IllegalStateException.<init>", "IllegalArgumentException.<init>", "IndexOutOfBoundsException.<init>");
    private static final Set<Class<?>> CONSTANTS = Set.of(int.class, long.class, boolean.class, char.class, String.class,
        int[].class, long[].class, char[].class, byte[].class);
    private static final Pattern HEAD = Pattern.compile("( +)(?:(?:public|private|static|final) )*[\\w\\[\\]]+ ?\\w*\\(.*\\{");

    public static void main(String[] args) throws IOException, IllegalAccessException {
        Check c = new Check();
        List<String> lines = Files.readAllLines(Path.of("src/main/java/ShapeLang.java"), StandardCharsets.US_ASCII);
        words(c, lines);
        methods(c, lines);
        List<Class<?>> classes = new ArrayList<>(List.of(ShapeLang.class.getDeclaredClasses()));
        c.is("rule 11: classes", classes.size() < 12 ? 1 : 0, 1);
        classes.add(ShapeLang.class);
        for (Class<?> one : classes) {
            fields(c, one);
            bytecode(c, one);
            for (Method method : one.getDeclaredMethods()) {
                c.is("rule 11: parameters of " + method, method.getParameterCount() <= 7 ? 1 : 0, 1);
                c.is("rule 2: " + method + " is made by the compiler", method.isSynthetic() ? 1 : 0, 0);
            }
        }
        room(c);
        c.end("LanguageTest");
    }

    /** The text without comments and without texts in it. */
    private static String bare(String line) {
        return line.replaceAll("\"[^\"]*\"", "\"\"").replaceAll("'(\\\\.|[^'])'", "' '").replaceAll("//.*|^ *(/\\*)?\\*.*", "");
    }

    private static void words(Check c, List<String> lines) {
        Pattern never = Pattern.compile("\\b(package|try|catch|finally|synchronized|assert|transient|volatile|native)\\b|->|::|static \\{");
        for (int i = 0; i < lines.size(); i++) {
            String line = bare(lines.get(i));
            String place = "line " + (i + 1) + ": " + lines.get(i).trim();
            c.is("a word that no rule lets in, " + place, never.matcher(line).find() ? 1 : 0, 0);
            boolean imports = line.startsWith("import ");
            c.is("rule 4, " + place, !imports || line.startsWith("import java.util.") && !line.contains("*") ? 1 : 0, 1);
            boolean makes = line.contains("new ") && !line.contains("throw new ");
            boolean kept = line.trim().matches("private (static )?(final )?[\\w\\[\\]]+ \\w+ = new .*") || line.trim().matches("\\w+(\\[i\\])? = new .*");
            c.is("what is made is made by constructors, " + place, !makes || kept ? 1 : 0, 1);
            c.is("rule 6, " + place, !line.contains("throw") || line.matches(".*(throw new \\w+\\(\"\"\\);|\\) throws .*\\{)") ? 1 : 0, 1);
        }
    }

    /** Rule 11: methods stay short. */
    private static void methods(Check c, List<String> lines) {
        int found = 0;
        for (int i = 0; i < lines.size(); i++) {
            Matcher m = HEAD.matcher(lines.get(i));
            if (m.matches() && (m.group(1).length() == 4 || m.group(1).length() == 8) && !lines.get(i).trim().matches("(if|for|while|switch|else|try|\\}).*")) {
                int end = i;
                while (!lines.get(end).equals(m.group(1) + "}")) {
                    end++;
                }
                found++;
                c.is("rule 11: the length of " + lines.get(i).trim(), end - i < 60 ? 1 : 0, 1);
            }
        }
        c.is("methods were found", found > 400 ? 1 : 0, 1);
    }

    /** Rules 3, 5 and 11. */
    private static void fields(Check c, Class<?> one) {
        int count = 0;
        for (Field field : one.getDeclaredFields()) {
            Class<?> type = field.getType();
            if (Modifier.isStatic(field.getModifiers())) {
                boolean stands = Modifier.isFinal(field.getModifiers()) && CONSTANTS.contains(type);
                c.is("rule 5: " + field, stands ? 1 : 0, 1);
                continue;
            }
            count++;
            Class<?> inner = type.isArray() ? type.getComponentType() : type;
            boolean numbers = inner.isArray() && inner.getComponentType().isPrimitive() && inner.getComponentType() != boolean.class;
            boolean own = inner.getEnclosingClass() == ShapeLang.class || inner.isPrimitive() || numbers;
            c.is("rule 3: " + field, own ? 1 : 0, 1);
        }
        c.is("rule 11: fields of " + one, count <= 20 ? 1 : 0, 1);
    }

    /** Rules 2, 4, 6 and 10: what the bytecode refers to. */
    private static void bytecode(Check c, Class<?> one) throws IOException {
        String[] texts;
        int[] first;
        int[] second;
        int[] tags;
        try (InputStream file = one.getResourceAsStream(one.getName() + ".class"); DataInputStream in = new DataInputStream(file)) {
            in.readLong();
            int count = in.readUnsignedShort();
            texts = new String[count];
            first = new int[count];
            second = new int[count];
            tags = new int[count];
            for (int i = 1; i < count; i++) {
                tags[i] = in.readUnsignedByte();
                if (tags[i] == 1) {
                    texts[i] = in.readUTF();
                } else if (tags[i] == 5 || tags[i] == 6) {
                    in.readLong();
                    i++;
                } else if (tags[i] == 7 || tags[i] == 8 || tags[i] == 16) {
                    first[i] = in.readUnsignedShort();
                } else {
                    first[i] = in.readUnsignedShort();
                    second[i] = in.readUnsignedShort();
                }
            }
        }
        for (int i = 1; i < tags.length; i++) {
            c.is("rules 2 and 10: a lambda or a joined text in " + one, tags[i] == 15 || tags[i] == 18 ? 1 : 0, 0);
            c.is("rule 3: a double in " + one, tags[i] == 4 || tags[i] == 6 ? 1 : 0, 0);
            if (tags[i] == 9 || tags[i] == 10 || tags[i] == 11) {
                String owner = texts[first[first[i]]];
                String name = owner.substring(owner.lastIndexOf('/') + 1) + "." + texts[first[second[i]]];
                c.is("rule 4: " + name + " in " + one, owner.startsWith("ShapeLang") || CALLS.contains(name) ? 1 : 0, 1);
            }
        }
    }

    /** What an object of the class has in it: it is made once and kept. */
    private static void room(Check c) throws IllegalAccessException {
        ShapeLang x = new ShapeLang();
        long[] before = count(x);
        Check.begin(x, "R={a:num(0..9),b?:[@R;0..2]};S=text(a.*)|T(@S);");
        Check.change(x, 0, ShapeLang.ADD, 0, 0, "c:num=(a*a)");
        Check.put(x, 0, "{a:1,b:[{a:2}]}");
        x.convert(0, 1, 0, 1);
        x.witness(0, 0, 1, 0);
        x.infer(255, 2);
        x.small(0, 1, 3);
        x.encode(1, 1);
        x.write(1, 1);
        long[] behind = count(x);
        c.is("the room: objects", before[0] < 600 ? 1 : 0, 1);
        c.is("the room: fields and elements", before[1] < 600000 ? 1 : 0, 1);
        c.is("the room: objects that calls made and kept", behind[0] <= before[0] ? 1 : 0, 1);
        c.is("the room: fields and elements that calls made and kept", behind[1] <= before[1] ? 1 : 0, 1);
    }

    private static long[] count(Object root) throws IllegalAccessException {
        Set<Object> seen = Collections.newSetFromMap(new IdentityHashMap<>());
        Deque<Object> open = new ArrayDeque<>(List.of(root));
        long elements = 0;
        while (!open.isEmpty()) {
            Object thing = open.pop();
            if (!seen.add(thing)) {
                continue;
            }
            if (thing.getClass().isArray()) {
                elements += Array.getLength(thing);
                for (int i = 0; !thing.getClass().getComponentType().isPrimitive() && i < Array.getLength(thing); i++) {
                    open.push(Array.get(thing, i));
                }
                continue;
            }
            for (Field field : thing.getClass().getDeclaredFields()) {
                if (!Modifier.isStatic(field.getModifiers())) {
                    elements++;
                    field.setAccessible(true);
                    if (!field.getType().isPrimitive()) {
                        open.push(field.get(thing));
                    }
                }
            }
        }
        return new long[] {seen.size(), elements};
    }
}
