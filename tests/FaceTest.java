import java.lang.reflect.Constructor;
import java.lang.reflect.Field;
import java.lang.reflect.Member;
import java.lang.reflect.Method;
import java.lang.reflect.Modifier;
import java.util.ArrayList;
import java.util.Arrays;
import java.util.List;
import java.util.Set;
import java.util.TreeSet;
import java.util.regex.Matcher;
import java.util.regex.Pattern;

/** The public face of the document, and no other: constants, constructor, methods and what they say that they throw. */
public final class FaceTest {
    /** The lines of the face as the document tells them. */
    private static final String FACE = """
        public static final int NONE = -1;
        public static final int ADD = 0, DROP = 1, RENAME = 2, SPLIT = 3, JOIN = 4, MOVE = 5, LIFT = 6, RETYPE = 7, WRAP = 8, UNWRAP = 9, RELAX = 10, REQUIRE = 11;
        public ShapeLang();
        public int feed(long bytes, int n) throws IllegalArgumentException, IllegalStateException;
        public int fault();
        public int length();
        public long word(int i);
        public int put(int slot) throws IndexOutOfBoundsException, IllegalStateException;
        public boolean clear(int slot) throws IndexOutOfBoundsException;
        public int show(int slot) throws IndexOutOfBoundsException, IllegalStateException;
        public int compare(int slot, int other) throws IndexOutOfBoundsException, IllegalStateException;
        public int begin() throws IllegalStateException;
        public int change(int version, int kind, int definition, int n) throws IndexOutOfBoundsException, IllegalArgumentException, IllegalStateException;
        public int versions();
        public int parent(int version) throws IndexOutOfBoundsException;
        public int schema(int version) throws IndexOutOfBoundsException;
        public int signature(int version) throws IndexOutOfBoundsException;
        public boolean isPlain(int version) throws IndexOutOfBoundsException;
        public boolean isOf(int version, int definition, int slot) throws IndexOutOfBoundsException, IllegalStateException;
        public int witness(int version, int definition, int otherVersion, int other) throws IndexOutOfBoundsException;
        public int common(int version, int definition, int otherVersion, int other) throws IndexOutOfBoundsException;
        public int least(int version, int definition) throws IndexOutOfBoundsException;
        public int infer(int slots, int growth) throws IllegalArgumentException, IllegalStateException;
        public int convert(int from, int to, int slot, int target) throws IndexOutOfBoundsException, IllegalStateException;
        public int losses(int from, int to) throws IndexOutOfBoundsException;
        public int encode(int version, int slot) throws IndexOutOfBoundsException, IllegalStateException;
        public int decode(int version, int bits, int slot) throws IndexOutOfBoundsException, IllegalArgumentException, IllegalStateException;
        public int query(int version, int slot) throws IndexOutOfBoundsException, IllegalStateException;
        public int result(int result) throws IndexOutOfBoundsException;
        public int shapeOf(int version) throws IndexOutOfBoundsException, IllegalStateException;
        public int rewrite(int from, int to) throws IndexOutOfBoundsException, IllegalStateException;
        public int write(int version, int slot) throws IndexOutOfBoundsException, IllegalStateException;
        public int read(int document, int version, int slot) throws IndexOutOfBoundsException, IllegalStateException;
        public int move(int version, int most) throws IndexOutOfBoundsException, IllegalArgumentException;
        public int versionOf(int document) throws IndexOutOfBoundsException;
        public int conflicts(int version, int other) throws IndexOutOfBoundsException;
        public int merge(int version, int other) throws IndexOutOfBoundsException, IllegalStateException;
        public int small(int version, int definition, int nodes) throws IndexOutOfBoundsException, IllegalArgumentException;
        public int putSmall(int version, int definition, int nodes, int place, int slot) throws IndexOutOfBoundsException, IllegalArgumentException;
        public int refuted(int version, int definition, int otherVersion, int other, int nodes) throws IndexOutOfBoundsException, IllegalArgumentException;
        public int shrink(int version, int definition, int otherVersion, int other, int slot) throws IndexOutOfBoundsException, IllegalStateException;
        """;
    private static final Pattern CONSTANT = Pattern.compile("([A-Z]+) = (-?\\d+)");
    private static final Pattern CALL = Pattern.compile("public (\\w+) (\\w+)\\((.*?)\\)(?: throws (.*))?;");

    public static void main(String[] args) throws IllegalAccessException {
        Check c = new Check();
        Set<String> constants = new TreeSet<>();
        Set<String> calls = new TreeSet<>();
        for (String line : FACE.split("\n")) {
            Matcher call = CALL.matcher(line);
            if (line.contains("static final int")) {
                Matcher m = CONSTANT.matcher(line);
                while (m.find()) {
                    constants.add(m.group());
                }
            } else if (call.matches()) {
                List<String> types = new ArrayList<>();
                for (String told : call.group(3).isEmpty() ? new String[0] : call.group(3).split(", ")) {
                    types.add(told.substring(0, told.indexOf(' ')));
                }
                calls.add(call.group(1) + " " + call.group(2) + types + (call.group(4) == null ? "" : call.group(4)));
            }
        }
        c.is("constants of the document", constants.size(), 13);
        c.is("methods of the document", calls.size(), 38);
        c.is("constants", constants().toString(), constants.toString());
        c.is("methods", calls().toString(), calls.toString());
        c.is("the class", Modifier.toString(ShapeLang.class.getModifiers()), "public final");
        c.is("its constructors", Arrays.toString(ShapeLang.class.getConstructors()), "[public ShapeLang()]");
        c.is("the class above it", ShapeLang.class.getSuperclass().getName(), "java.lang.Object");
        c.is("what it implements", ShapeLang.class.getInterfaces().length, 0);
        nothingElse(c);
        c.end("FaceTest");
    }

    private static Set<String> constants() throws IllegalAccessException {
        Set<String> found = new TreeSet<>();
        for (Field field : ShapeLang.class.getFields()) {
            boolean constant = Modifier.toString(field.getModifiers()).equals("public static final") && field.getType() == int.class;
            found.add(field.getName() + " = " + (constant ? "" + field.getInt(null) : "no constant"));
        }
        return found;
    }

    private static Set<String> calls() {
        Set<String> found = new TreeSet<>();
        for (Method method : ShapeLang.class.getDeclaredMethods()) {
            if (Modifier.isPublic(method.getModifiers())) {
                List<String> types = new ArrayList<>();
                for (Class<?> type : method.getParameterTypes()) {
                    types.add(type.getSimpleName());
                }
                List<String> thrown = new ArrayList<>();
                for (Class<?> type : method.getExceptionTypes()) {
                    thrown.add(type.getSimpleName());
                }
                found.add(method.getReturnType().getSimpleName() + " " + method.getName() + types + String.join(", ", thrown));
            }
        }
        return found;
    }

    /** All other members are private, and the classes inside are static; no other method has a name of the face. */
    private static void nothingElse(Check c) {
        List<Member> members = new ArrayList<>();
        members.addAll(Arrays.asList(ShapeLang.class.getDeclaredFields()));
        members.addAll(Arrays.asList(ShapeLang.class.getDeclaredMethods()));
        members.addAll(Arrays.asList((Constructor<?>[]) ShapeLang.class.getDeclaredConstructors()));
        Set<String> names = new TreeSet<>();
        for (Member member : members) {
            boolean open = Modifier.isPublic(member.getModifiers()) || Modifier.isPrivate(member.getModifiers());
            c.is(member + " is public or private", open ? 1 : 0, 1);
            if (member instanceof Method && Modifier.isPublic(member.getModifiers())) {
                names.add(member.getName());
            }
        }
        for (Method method : ShapeLang.class.getDeclaredMethods()) {
            boolean hides = !Modifier.isPublic(method.getModifiers()) && names.contains(method.getName());
            c.is(method + " has a name of the face", hides ? 1 : 0, 0);
        }
        for (Class<?> inside : ShapeLang.class.getDeclaredClasses()) {
            boolean hidden = !Modifier.isPublic(inside.getModifiers()) && !Modifier.isProtected(inside.getModifiers());
            c.is(inside + " is hidden and static", hidden && Modifier.isStatic(inside.getModifiers()) ? 1 : 0, 1);
            for (Method method : inside.getDeclaredMethods()) {
                c.is(method + " has a name of the face", names.contains(method.getName()) ? 1 : 0, 0);
            }
        }
    }
}
