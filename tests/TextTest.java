import java.util.ArrayList;
import java.util.List;
import java.util.Random;

/**
 * Promises 16, 18 and 19 for texts: the first text that is of some parts and not of others, or of both, found once
 * more by going through all texts over the letters that are named and one that is not.
 */
public final class TextTest {
    private static final Check C = new Check();

    /** Items as told, gone through a letter at a time: a bit for each item that could take the next letter, and one for the end. */
    private static final class Items {
        final List<Character> sign = new ArrayList<>();
        final List<Character> times = new ArrayList<>();

        Items(String told) {
            for (char c : told.toCharArray()) {
                if (c == '*' || c == '?') {
                    times.set(times.size() - 1, c);
                } else {
                    sign.add(c);
                    times.add(' ');
                }
            }
        }

        int from(int places) {
            for (int i = 0; i < sign.size(); i++) {
                if ((places >> i & 1) != 0 && times.get(i) != ' ') {
                    places |= 2 << i;
                }
            }
            return places;
        }

        int over(int places, char letter) {
            int next = 0;
            for (int i = 0; i < sign.size(); i++) {
                if ((places >> i & 1) != 0 && (sign.get(i) == '.' || sign.get(i) == letter)) {
                    next |= times.get(i) == '*' ? 1 << i : 2 << i;
                }
            }
            return from(next);
        }

        boolean isEnd(int places) {
            return (places >> sign.size() & 1) != 0;
        }
    }

    private static List<Items> first;
    private static List<Items> second;
    private static boolean apart;

    private static int[] start(List<Items> all) {
        return all.stream().mapToInt(x -> x.from(1)).toArray();
    }

    private static int[] over(List<Items> all, int[] places, char letter) {
        int[] next = new int[places.length];
        for (int i = 0; i < places.length; i++) {
            next[i] = all.get(i).over(places[i], letter);
        }
        return next;
    }

    private static boolean isEnd(List<Items> all, int[] places) {
        for (int i = 0; i < places.length; i++) {
            if (all.get(i).isEnd(places[i])) {
                return true;
            }
        }
        return false;
    }

    /** The first text with so many letters more; null if there is none. */
    private static String search(String text, int[] one, int[] two, int rest, String letters) {
        if (rest == 0) {
            return isEnd(first, one) && isEnd(second, two) != apart ? text : null;
        }
        for (char letter : letters.toCharArray()) {
            String found = search(text + letter, over(first, one, letter), over(second, two, letter), rest - 1, letters);
            if (found != null) {
                return found;
            }
        }
        return null;
    }

    private static String expected(List<String> one, List<String> two, boolean isApart, String letters) {
        first = one.stream().map(Items::new).toList();
        second = two.stream().map(Items::new).toList();
        apart = isApart;
        for (int n = 0; n <= 8; n++) {
            String found = search("", start(first), start(second), n, letters);
            if (found != null) {
                return "'" + found + "'";
            }
        }
        return "";
    }

    private static String parts(List<String> items) {
        StringBuilder text = new StringBuilder();
        for (String told : items) {
            text.append(text.length() > 0 ? "|" : "").append("text(").append(told).append(")");
        }
        return text.toString();
    }

    private static void due(String what, ShapeLang x, int nodes, String open, String text, String close) {
        C.is(what, Check.out(x), text.isEmpty() ? "" : open + text + close);
        C.is(what + " nodes", nodes, text.isEmpty() ? ShapeLang.NONE : open.length() / 2 + 1);
    }

    private static void bothWays(List<String> one, List<String> two, String letters) {
        ShapeLang x = new ShapeLang();
        Check.begin(x, "A=" + parts(one) + ";B=" + parts(two) + ";");
        String what = Check.schema(x, 0);
        due("P18 " + what, x, x.witness(0, 0, 0, 1), "", expected(one, two, true, letters), "");
        due("P19 " + what, x, x.common(0, 0, 0, 1), "", expected(one, two, false, letters), "");
    }

    private static String randomItems(Random random, String signs) {
        int count = 1 + random.nextInt(8);
        int loose = random.nextInt(3) == 0 ? count : Math.max(0, count - 3);
        StringBuilder told = new StringBuilder();
        for (int i = 0; i < count; i++) {
            told.append(signs.charAt(random.nextInt(signs.length())));
            if (i >= loose && random.nextInt(3) > 0) {
                told.append(random.nextBoolean() ? '*' : '?');
            }
        }
        return told.toString();
    }

    private static List<String> randomParts(Random random, int most, String signs) {
        List<String> told = new ArrayList<>();
        int count = 1 + random.nextInt(most);
        for (int i = 0; i < count; i++) {
            told.add(randomItems(random, signs));
        }
        return told;
    }

    private static void randomCases() {
        Random random = new Random(18);
        for (int i = 0; i < 400; i++) {
            String signs = i % 2 == 0 ? "ab." : "ab....";
            bothWays(randomParts(random, 6, signs), randomParts(random, 6, signs), "abc");
        }
        for (int i = 0; i < 40; i++) {
            bothWays(randomParts(random, 3, "abc..."), randomParts(random, 6, "abc..."), "abcd");
        }
        for (int i = 0; i < 200; i++) {
            List<String> other = randomParts(random, 6, "ab.");
            other.add(0, "........");
            bothWays(List.of(i % 4 == 0 ? ".*" : i % 4 == 1 ? "......a*" : "........"), other.subList(0, Math.min(6, other.size())), "abc");
        }
    }

    /** The second one has these parts, under T(U( )) as far as they can be told there: all of them are to be kept out of at once. */
    private static void nested(List<String> one, List<List<String>> other, String letters) {
        ShapeLang x = new ShapeLang();
        Check.begin(x, "A=T(U(" + parts(one) + "));");
        Check.begin(x, "B=T(U(" + parts(other.get(0)) + ")|U(" + parts(other.get(1)) + "))|T(U(" + parts(other.get(2)) + "));");
        List<String> all = new ArrayList<>();
        other.forEach(all::addAll);
        String due = expected(one, all, true, letters);
        due("P18 " + Check.schema(x, 1), x, x.witness(0, 0, 1, 0), "T(U(", due, "))");
    }

    private static void nestedCases() {
        Random random = new Random(19);
        String[] signs = {"ab.....", "abb....", "aab..."};
        for (int i = 0; i < 60; i++) {
            List<List<String>> other = new ArrayList<>();
            for (int k = 0; k < 3; k++) {
                List<String> parts = new ArrayList<>();
                for (int j = 0; j < 6; j++) {
                    StringBuilder told = new StringBuilder();
                    for (int place = 0; place < 8; place++) {
                        told.append(signs[i % 3].charAt(random.nextInt(signs[i % 3].length())));
                    }
                    parts.add(i % 4 == 3 && j > 3 ? randomItems(random, "ab.") : told.toString());
                }
                other.add(parts);
            }
            nested(List.of("........"), other, "abc");
        }
    }

    private static void witness(String one, String other, String due) {
        ShapeLang x = new ShapeLang();
        Check.begin(x, one);
        Check.begin(x, other);
        int nodes = x.witness(0, 0, 1, 0);
        C.is("P18 " + one + " " + other, Check.out(x), due);
        C.is("P18 nodes " + one + " " + other, nodes, due.isEmpty() ? ShapeLang.NONE : Check.put(x, 0, due));
    }

    /** Under T(U( )) 24 letters from one on are kept out as first ones, two by a part, and what more is told. */
    private static String twoByTwo(char from, String more) {
        StringBuilder all = new StringBuilder("B=T(U(");
        for (int i = 0; i < 12; i++) {
            all.append(i == 6 ? ")|U(" : i > 0 ? "|" : "").append("text(").append((char) (from + 2 * i)).append('?').append((char) (from + 2 * i + 1)).append("?.)");
        }
        return all + "))|T(U(" + more + "));";
    }

    /** Where all letters are named there is none that keeps out of all parts. */
    private static void allLetters() {
        witness("A=text(...);", "B=text(a?b?.*)|text(d.*);", "");
        witness("A=text(..);", "B=text(a*b*c*)|text(d*e*f*)|text(g*h*i*)|text(j*k*l*)|text(m*n*o*)|text(p*q*r*);", "'ad'");
        String many = "B=T(U(text(a*b*c*)|text(d*e*f*)|text(g*h*i*)|text(j*k*l*)|text(m*n*o*)|text(p*q*r*))|U(text(s*t*u*)|text(v*w*x*)|text(y*z*.?)";
        witness("A=T(U(text(.)));", many + "))|T(U(text(b)));", "");
        witness("A=T(U(text(..)));", many + "))|T(U(text(a.)|text(b.)|text(c.)));", "T(U('da'))");
        witness("A=T(U(text(..)));", many + "|text(a.)|text(b.)|text(c.)))|T(U(text(d.)|text(e.)|text(f.)|text(g.)|text(h.)|text(i.)));", "T(U('ja'))");
        // all first letters but one are kept out, and all 26 are named
        witness("A=T(U(text(..)));", twoByTwo('a', "text(y.)|text(zz)"), "T(U('za'))");
        witness("A=T(U(text(..)));", twoByTwo('b', "text(z.)|text(aa)"), "T(U('ab'))");
        witness("A=T(U(text(..)));", twoByTwo('b', "text(z.)|text(a.)"), "");
        witness("A=text(........);", "B=text(a*b*c*)|text(.*);", "");
        witness("A=text(........);", "B=text(a*.a*)|text(.......a)|text(b.......);", "'aaaaaabb'");
        witness("A=text;", "B=text(.?.?.?)|text(....)|text(.....)|text(......)|text(.......)|text(.......a?);", "'aaaaaaab'");
        witness("A=text;", "B=text(.?.?.?)|text(....)|text(.....)|text(......)|text(.......)|text(........);", "");
    }

    /** The two parts of T have a common text, though each has many that the other one has not. */
    private static void plain() {
        ShapeLang x = new ShapeLang();
        Check.begin(x, "A=T(text(a.....*cx)|text(.a....*dx)|text(..a...*ex)|text(zzzzzzzz))|T(text(b.....*hy)|text(.b....*iy)|text(..b...*jy)|text(zzzzzzzz));");
        C.is("P16 both T", x.isPlain(0) ? 1 : 0, 0);
        Check.begin(x, "A=T(text(a.....*cx)|text(.b....*dx))|T(text(b.....*hy)|text(zzzzzzzz)|text(.a....*iy));");
        C.is("P16 plain", x.isPlain(1) ? 1 : 0, 1);
        Check.begin(x, "A=T(text(a.....*cx)|text(.b....*cx))|T(text(b.....*hy));");
        C.is("P16 both texts in one T", x.isPlain(2) ? 1 : 0, 0);
    }

    /** RETYPE loses if the old shape is not part of the new one. */
    private static void losses() {
        String old = "T(U(text(........)))";
        String[] parts = {"a.......", "b.......", "c.......", ".a......", ".b......", ".c......", "..a.....", "..b.....", "...a....", "...b....",
            "....a...", "....b...", ".....a..", ".....b..", "......a.", "......b."};
        StringBuilder fresh = new StringBuilder("T(U(");
        for (int i = 0; i < parts.length; i++) {
            fresh.append(i == 6 ? ")|U(" : i == 12 ? "))|T(U(" : i > 0 ? "|" : "").append("text(").append(parts[i]).append(")");
        }
        fresh.append("))");
        ShapeLang x = new ShapeLang();
        Check.begin(x, "R={a:" + old + "};");
        C.is("P11 RETYPE", Check.change(x, 0, ShapeLang.RETYPE, 0, 0, "a:" + fresh + "=T(U('aaaaaaaa'))"), 1);
        C.is("P23 forward", x.losses(0, 1), 1);
        C.is("P23 backward", x.losses(1, 0), 0);
        C.is("P11 RETYPE back", Check.change(x, 1, ShapeLang.RETYPE, 0, 0, "a:" + old + "=T(U('aaaaaaaa'))"), 2);
        C.is("P23 forward of that", x.losses(1, 2), 0);
        C.is("P23 backward of that", x.losses(2, 1), 1);
        C.is("P23 both", x.losses(0, 2), 1);
    }

    public static void main(String[] args) {
        randomCases();
        nestedCases();
        allLetters();
        plain();
        losses();
        C.end("TextTest");
    }
}
