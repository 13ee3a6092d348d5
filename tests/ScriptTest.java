import java.io.IOException;
import java.nio.charset.StandardCharsets;
import java.nio.file.Files;
import java.nio.file.Path;
import java.util.Arrays;
import java.util.List;
import java.util.stream.Stream;

/**
 * Goes through the scripts under tests/scripts: rows of calls with the answers of tools/model, which was written
 * apart from the class. A row is a call and its answer, with the bytes of the out behind it if the call sets it.
 */
public final class ScriptTest {
    private static ShapeLang x;

    private static String feed(byte[] bytes) {
        String answer = "";
        try {
            for (int i = 0; i < bytes.length; i += 8) {
                int n = Math.min(8, bytes.length - i);
                long word = 0;
                for (int k = 0; k < n; k++) {
                    word |= (bytes[i + k] & 255L) << (8 * k);
                }
                answer = "" + x.feed(word, n);
            }
        } catch (IllegalStateException e) {
            answer = "ISE";
        }
        return answer;
    }

    private static byte[] bytesOf(String hex) {
        byte[] bytes = new byte[hex.length() / 2];
        for (int i = 0; i < bytes.length; i++) {
            bytes[i] = (byte) Integer.parseInt(hex.substring(2 * i, 2 * i + 2), 16);
        }
        return bytes;
    }

    private static String outHex() {
        StringBuilder hex = new StringBuilder();
        for (char c : Check.out(x).toCharArray()) {
            hex.append(String.format("%02x", (int) c));
        }
        return hex.toString();
    }

    private static long call(String name, int[] a) {
        switch (name) {
            case "fault": return x.fault();
            case "length": return x.length();
            case "word": return x.word(a[0]);
            case "put": return x.put(a[0]);
            case "clear": return x.clear(a[0]) ? 1 : 0;
            case "show": return x.show(a[0]);
            case "compare": return x.compare(a[0], a[1]);
            case "begin": return x.begin();
            case "change": return x.change(a[0], a[1], a[2], a[3]);
            case "versions": return x.versions();
            case "parent": return x.parent(a[0]);
            case "schema": return x.schema(a[0]);
            case "signature": return x.signature(a[0]);
            case "isPlain": return x.isPlain(a[0]) ? 1 : 0;
            case "isOf": return x.isOf(a[0], a[1], a[2]) ? 1 : 0;
            case "witness": return x.witness(a[0], a[1], a[2], a[3]);
            case "common": return x.common(a[0], a[1], a[2], a[3]);
            case "least": return x.least(a[0], a[1]);
            case "infer": return x.infer(a[0], a[1]);
            case "convert": return x.convert(a[0], a[1], a[2], a[3]);
            case "losses": return x.losses(a[0], a[1]);
            case "encode": return x.encode(a[0], a[1]);
            case "decode": return x.decode(a[0], a[1], a[2]);
            case "query": return x.query(a[0], a[1]);
            case "result": return x.result(a[0]);
            case "shapeOf": return x.shapeOf(a[0]);
            case "rewrite": return x.rewrite(a[0], a[1]);
            case "write": return x.write(a[0], a[1]);
            case "read": return x.read(a[0], a[1], a[2]);
            case "move": return x.move(a[0], a[1]);
            case "versionOf": return x.versionOf(a[0]);
            case "conflicts": return x.conflicts(a[0], a[1]);
            case "merge": return x.merge(a[0], a[1]);
            case "small": return x.small(a[0], a[1], a[2]);
            case "putSmall": return x.putSmall(a[0], a[1], a[2], a[3], a[4]);
            case "refuted": return x.refuted(a[0], a[1], a[2], a[3], a[4]);
            case "shrink": return x.shrink(a[0], a[1], a[2], a[3], a[4]);
            default: throw new AssertionError(name);
        }
    }

    private static String answer(String row) {
        if (row.equals("N")) {
            x = new ShapeLang();
            return "N";
        }
        if (row.startsWith("T ")) {
            return feed(row.substring(2).getBytes(StandardCharsets.ISO_8859_1));
        }
        if (row.startsWith("H ")) {
            return feed(bytesOf(row.substring(2)));
        }
        String[] words = row.split(" ");
        int[] arguments = Arrays.stream(words).skip(1).mapToInt(Integer::parseInt).toArray();
        try {
            long answer = call(words[0], arguments);
            boolean tells = List.of("show", "schema", "witness", "common", "least", "encode", "result", "shapeOf", "rewrite").contains(words[0]);
            return (answer + " " + (tells ? outHex() : "")).trim();
        } catch (RuntimeException e) {
            Class<?> thrown = e.getClass();
            return thrown == IndexOutOfBoundsException.class ? "IOOBE" : thrown == IllegalArgumentException.class ? "IAE" : thrown == IllegalStateException.class ? "ISE" : e.toString();
        }
    }

    public static void main(String[] args) throws IOException {
        Check check = new Check();
        List<Path> scripts;
        try (Stream<Path> found = Files.list(Path.of("tests/scripts"))) {
            scripts = found.sorted().toList();
        }
        for (Path script : scripts) {
            int line = 0;
            for (String row : Files.readAllLines(script)) {
                line++;
                int arrow = row.indexOf(" -> ");
                check.is(script + ":" + line + " " + row.substring(0, arrow), answer(row.substring(0, arrow)), row.substring(arrow + 4));
            }
        }
        check.is("there are scripts", scripts.isEmpty() ? 0 : 1, 1);
        check.end("ScriptTest");
    }
}
