import java.io.ByteArrayOutputStream;
import java.io.OutputStream;
import java.io.PrintStream;
import java.net.URI;
import java.nio.file.Files;
import java.nio.file.Path;
import java.util.ArrayList;
import java.util.HashMap;
import java.util.List;
import java.util.Map;
import java.util.regex.Matcher;
import java.util.regex.Pattern;
import javax.tools.FileObject;
import javax.tools.ForwardingJavaFileManager;
import javax.tools.JavaCompiler;
import javax.tools.JavaFileManager;
import javax.tools.JavaFileObject;
import javax.tools.SimpleJavaFileObject;
import javax.tools.StandardJavaFileManager;
import javax.tools.ToolProvider;

/**
 * Breaks the class in one small place at a time and tells which breaks no test notices.
 * Arguments: shard, shards, the file for the report, first line, last line, and the names of the tests, the quick ones first.
 * Run from the top of the project; with -Donly=FILE only breaks that an earlier report tells are made again.
 */
public final class Mutate {
    private static final String SOURCE = "src/main/java/ShapeLang.java";
    private static final Pattern GUARD = Pattern.compile("\\w+(\\[\\w+\\])?( [+-] \\w+)* (>= 0|< 0|< [\\w.]+\\.length|>= [\\w.]+\\.length|< (ROOM|EDGES|STACK|NAMES|LONGEST|THREADS)|>= (ROOM|EDGES|STACK|NAMES))\\b");
    private static final String[][] SWAPS = {{" < ", " <= "}, {" <= ", " < "}, {" > ", " >= "}, {" >= ", " > "}, {" == ", " != "}, {" != ", " == "},
        {" && ", " || "}, {" || ", " && "}, {" + ", " - "}, {" - ", " + "}, {"true", "false"}, {"false", "true"}, {"++", "--"}, {" * ", " + "}, {" / ", " * "}, {" % ", " / "}};

    record Mutant(int line, String text) { }

    private static final class Source extends SimpleJavaFileObject {
        private final String text;

        Source(String name, String text) {
            super(URI.create("string:///" + name + ".java"), Kind.SOURCE);
            this.text = text;
        }

        @Override
        public CharSequence getCharContent(boolean ignored) {
            return text;
        }
    }

    private static final class Bytes extends SimpleJavaFileObject {
        final ByteArrayOutputStream bytes = new ByteArrayOutputStream();

        Bytes(String name) {
            super(URI.create("mem:///" + name + ".class"), Kind.CLASS);
        }

        @Override
        public OutputStream openOutputStream() {
            return bytes;
        }
    }

    private static final class Memory extends ForwardingJavaFileManager<StandardJavaFileManager> {
        final Map<String, Bytes> classes = new HashMap<>();

        Memory(StandardJavaFileManager below) {
            super(below);
        }

        @Override
        public JavaFileObject getJavaFileForOutput(JavaFileManager.Location where, String name, JavaFileObject.Kind kind, FileObject from) {
            Bytes made = new Bytes(name);
            classes.put(name, made);
            return made;
        }
    }

    private static final class Loader extends ClassLoader {
        private final Map<String, byte[]> classes;

        Loader(Map<String, byte[]> classes) {
            super(ClassLoader.getPlatformClassLoader());
            this.classes = classes;
        }

        @Override
        protected Class<?> findClass(String name) throws ClassNotFoundException {
            byte[] bytes = classes.get(name);
            if (bytes == null) {
                throw new ClassNotFoundException(name);
            }
            return defineClass(name, bytes, 0, bytes.length);
        }
    }

    private static final JavaCompiler COMPILER = ToolProvider.getSystemJavaCompiler();

    private static Map<String, byte[]> compile(List<Source> sources) {
        Memory memory = new Memory(COMPILER.getStandardFileManager(d -> { }, null, null));
        boolean good = COMPILER.getTask(null, memory, d -> { if (d.getKind() == javax.tools.Diagnostic.Kind.ERROR && sources.size() > 1) System.err.println(d); }, List.of("-nowarn"), null, sources).call();
        if (!good) {
            return null;
        }
        Map<String, byte[]> all = new HashMap<>();
        memory.classes.forEach((name, bytes) -> all.put(name, bytes.bytes.toByteArray()));
        return all;
    }

    private static List<Mutant> mutants(String[] lines, int first, int last) {
        List<Mutant> all = new ArrayList<>();
        for (int i = first - 1; i < last && i < lines.length; i++) {
            String line = lines[i];
            String bare = line.trim();
            if (bare.startsWith("//") || bare.startsWith("*") || bare.startsWith("/*") || bare.startsWith("throw ") || bare.startsWith("import")) {
                continue;
            }
            boolean[] guarded = new boolean[line.length() + 1];
            Matcher guard = GUARD.matcher(line);
            while (guard.find()) {
                for (int k = guard.start(); k < guard.end(); k++) {
                    guarded[k] = true;
                }
            }
            for (String[] swap : SWAPS) {
                for (int at = line.indexOf(swap[0]); at >= 0; at = line.indexOf(swap[0], at + 1)) {
                    boolean logic = swap[0].contains("&") || swap[0].contains("|");
                    boolean nearGuard = logic && (at > 0 && guarded[at - 1] || guarded[Math.min(line.length(), at + swap[0].length())]);
                    if (!guarded[at + 1] && !nearGuard) {
                        all.add(new Mutant(i + 1, line.substring(0, at) + swap[1] + line.substring(at + swap[0].length())));
                    }
                }
            }
            Matcher number = Pattern.compile("(?<![\\w.'])\\d+(?![\\w.'])").matcher(line);
            while (number.find()) {
                if (guarded[number.start()] || line.contains("\"") || line.contains("POWERS =")) {
                    continue;
                }
                long value = Long.parseLong(number.group());
                all.add(new Mutant(i + 1, line.substring(0, number.start()) + (value + 1) + line.substring(number.end())));
                if (value > 0) {
                    all.add(new Mutant(i + 1, line.substring(0, number.start()) + (value - 1) + line.substring(number.end())));
                }
            }
            if (bare.matches("[a-zA-Z.]+\\(.*\\);") || bare.matches("[a-zA-Z.\\[\\]]+ [+-|]?= .*;") && !bare.contains("final")) {
                all.add(new Mutant(i + 1, line.substring(0, line.length() - bare.length()) + ";"));
            }
            if (bare.startsWith("if (") && bare.endsWith(") {")) {
                int at = line.indexOf("if (");
                all.add(new Mutant(i + 1, line.substring(0, at) + "if (!(" + line.substring(at + 4, line.length() - 3) + ")) {"));
            }
        }
        return all;
    }

    @SuppressWarnings({"deprecation", "removal"})
    private static String run(Map<String, byte[]> classes, String test, long limit) throws Exception {
        Class<?> main = new Loader(classes).loadClass(test);
        Throwable[] thrown = new Throwable[1];
        Thread thread = new Thread(null, () -> {
            try {
                main.getMethod("main", String[].class).invoke(null, (Object) new String[0]);
            } catch (Throwable e) {
                thrown[0] = e;
            }
        }, "test", 1 << 24);
        thread.start();
        thread.join(limit);
        if (thread.isAlive()) {
            thread.stop();
            thread.join(5000);
            return "slow";
        }
        return thrown[0] == null ? null : "wrong";
    }

    public static void main(String[] args) throws Exception {
        int shard = Integer.parseInt(args[0]);
        int shards = Integer.parseInt(args[1]);
        PrintStream report = new PrintStream(Files.newOutputStream(Path.of(args[2])), true);
        int first = Integer.parseInt(args[3]);
        int last = Integer.parseInt(args[4]);
        String text = Files.readString(Path.of(SOURCE));
        List<Source> sources = new ArrayList<>();
        sources.add(new Source("ShapeLang", text));
        for (Path support : (Iterable<Path>) Files.list(Path.of("tests/support"))::iterator) {
            String name = support.getFileName().toString().replace(".java", "");
            sources.add(new Source(name, Files.readString(support).replace("wrong++;", "wrong++; if (wrong > 0) { throw new Error(what); }")));
        }
        List<String> tests = new ArrayList<>(List.of(args).subList(5, args.length));
        for (String test : tests) {
            Path file = Path.of("tests/" + test + ".java");
            sources.add(new Source(test, Files.readString(Files.exists(file) ? file : Path.of("../shared/tests/" + test + ".java")).replace("System.exit(1)", "if (true) throw new Error()")));
        }
        Map<String, byte[]> base = compile(sources);
        PrintStream console = System.out;
        System.setOut(new PrintStream(OutputStream.nullOutputStream()));
        Map<String, Long> limits = new HashMap<>();
        for (String test : tests) {
            long start = System.nanoTime();
            String ill = run(base, test, 120000);
            long took = (System.nanoTime() - start) / 1000000;
            limits.put(test, 3000 + took * 6);
            console.println(test + " " + took + " ms " + ill);
        }
        String[] lines = text.split("\n", -1);
        List<Mutant> all = mutants(lines, first, last);
        String only = System.getProperty("only");
        if (only != null) {
            String told = Files.readString(Path.of(only));
            all.removeIf(m -> !told.contains("\n" + m.line() + ": " + lines[m.line() - 1].trim() + "\n    -> " + m.text().trim() + "\n"));
        }
        console.println(all.size() + " mutants");
        int survived = 0;
        for (int m = shard; m < all.size(); m += shards) {
            Mutant mutant = all.get(m);
            String[] changed = lines.clone();
            changed[mutant.line() - 1] = mutant.text();
            Map<String, byte[]> made = compile(List.of(new Source("ShapeLang", String.join("\n", changed))));
            if (made == null) {
                continue;
            }
            Map<String, byte[]> classes = new HashMap<>(base);
            classes.putAll(made);
            String ill = null;
            for (String test : tests) {
                ill = run(classes, test, limits.get(test));
                if (ill != null) {
                    break;
                }
            }
            if (ill == null) {
                survived++;
                report.println(mutant.line() + ": " + lines[mutant.line() - 1].trim() + "\n    -> " + mutant.text().trim());
            } else if (ill.equals("slow")) {
                report.println("SLOW " + mutant.line() + ": " + mutant.text().trim());
            }
        }
        report.println("END " + survived);
        console.println("shard " + shard + " ended, " + survived + " survived");
        System.exit(0);
    }
}
