import java.util.HashMap;
import java.util.Map;
import java.util.Random;

// Promises 13 to 16: texts.
public final class TextsTest {
    public static void main(String[] args) {
        feed();
        text();
        untell();
        law();
        faults();
        againstTheDefinition();
        Due.close();
    }

    private static void feed() {
        Due.about("promise 13");
        VeilSteps x = new VeilSteps();
        Due.is("feed(v, 0)", x.feed('v', 0), Due.BEYOND);
        Due.is("feed(v, 9)", x.feed('v', 9), Due.BEYOND);
        Due.is("feed(v, -1)", x.feed('v', -1), Due.BEYOND);
        Due.is("count(5)", x.count(5), 0);
        Due.is("feed(.., 1)", x.feed(0x7f7f7f7f7f7f7f76L, 1), 1);
        Due.is("text(0)", x.text(0), 1);
        Due.is("v alone", x.law(0, 17, 0, 0), 17);
        Due.is("feed(.., 8)", x.feed(0x3031302B31303031L, 8), 8);
        Due.is("text(0)", x.text(0), 1);
        Due.is("1001+010, the lowest first", x.law(0, 0, 0, 0), 40);
        Due.is("feed(.., 8)", x.feed(0x2B30302D30303120L, 8), 8);
        Due.is("a blank", x.text(0), -10);
        Due.is("feed(-1, 8)", x.feed(-1L, 8), 8);
        Due.is("a byte of 255", x.text(0), -10);
        for (int i = 1; i <= 7; i++) {
            Due.is("feed(.., 8)", x.feed(0x2B312B312B312B31L, 8), 8 * i);
        }
        Due.is("feed(.., 5)", x.feed(0L, 5), Due.FULL);
        Due.is("feed(.., 9)", x.feed(0L, 9), Due.BEYOND);
        Due.is("feed(.., 4)", x.feed(0x312B312BL, 4), 60);
        Due.is("feed(.., 1)", x.feed(0L, 1), Due.FULL);
        Due.is("count(5)", x.count(5), 60);
        Due.is("told(4)", x.told(4), 2);
        Due.is("text(0), ++", x.text(0), -10 - 56);
    }

    private static void text() {
        Due.about("promise 14");
        VeilSteps x = new VeilSteps();
        Due.is("nothing fed", x.text(0), -10);
        Due.feed(x, "s");
        Due.is("text(2)", x.text(2), Due.BEYOND);
        Due.is("text(-1)", x.text(-1), Due.BEYOND);
        Due.is("THE TAPE stays", x.count(5), 1);
        Due.is("text(0)", x.text(0), 1);
        Due.is("THE TAPE is empty", x.count(5), 0);
        Due.is("told(1)", x.told(1), 2);
        Due.feed(x, "s*v)");
        Due.is("a FAULT", x.text(0), -13);
        Due.is("THE TAPE is empty", x.count(5), 0);
        Due.is("no ERROR", x.told(1), 2);
        Due.is("the one ahead stays", x.law(0, 5, 7, 9), 7);
        Due.is("another in its place", Due.tell(x, 0, "y"), 1);
        Due.is("y", x.law(0, 5, 7, 9), 9);
        Due.is("v is no NAME of SIGHT", Due.tell(x, 1, "v"), -10);
        Due.is("s is no NAME of SIGHT", Due.tell(x, 1, "e+s"), -12);
        Due.is("e is no NAME of VEILS", Due.tell(x, 0, "e"), -10);
        Due.is("c is no NAME of VEILS", Due.tell(x, 0, "y*c"), -12);
        Due.is("e, y, c", Due.tell(x, 1, "e*100+y*10+c"), 1);
        Due.is("y is the second", x.law(1, 0, 2, 3), 23);
        Due.is("sixty bytes", Due.tell(x, 0, "1" + "+v".repeat(29) + "0"), -10 - 59);
        Due.is("sixty bytes", Due.tell(x, 0, "01" + "+v".repeat(29)), 1);
        Due.is("29 and 1", x.law(0, 1, 0, 0), 30);
    }

    private static void untell() {
        Due.about("promise 15");
        VeilSteps x = new VeilSteps();
        Due.is("untell(0)", x.untell(0), 0);
        Due.tell(x, 0, "7");
        Due.tell(x, 1, "8");
        Due.feed(x, "9");
        Due.is("untell(0)", x.untell(0), 1);
        Due.is("untell(0)", x.untell(0), 0);
        Due.is("law(0, 3, 0, 0)", x.law(0, 3, 0, 0), 3);
        Due.is("law(1, 3, 0, 0)", x.law(1, 3, 0, 0), 8);
        Due.is("untell(1)", x.untell(1), 1);
        Due.is("law(1, 3, 0, 0)", x.law(1, 3, 0, 0), 3);
        Due.is("untell(2)", x.untell(2), Due.BEYOND);
        Due.is("untell(-1)", x.untell(-1), Due.BEYOND);
        Due.is("THE TAPE stays", x.count(5), 1);
    }

    private static void law() {
        Due.about("promise 16");
        VeilSteps x = new VeilSteps();
        Due.is("law(0, 40, 0, 0)", x.law(0, 40, 0, 0), 40);
        Due.is("law(0, 41, 0, 0)", x.law(0, 41, 0, 0), 40);
        Due.is("law(1, -1, 9, 9)", x.law(1, -1, 9, 9), 0);
        Due.is("law(2, ..)", x.law(2, 0, 0, 0), Due.BEYOND);
        Due.is("law(-1, ..)", x.law(-1, 0, 0, 0), Due.BEYOND);
        gives(x, "v-s-y", 20, 5, 3, 12);
        gives(x, "v/s/y", 40, 5, 3, 2);
        gives(x, "v-s*y", 20, 5, 3, 5);
        gives(x, "(v-s)*y", 9, 5, 3, 12);
        gives(x, "v%s", 17, 5, 0, 2);
        gives(x, "v%s+9", -17, 5, 0, 7);
        gives(x, "v/s+9", -17, 5, 0, 6);
        gives(x, "v/s", 17, 0, 0, 0);
        gives(x, "v%s", 17, 0, 0, 0);
        gives(x, "v/s%7", Integer.MIN_VALUE, -1, 0, 0);
        gives(x, "9+v/s%7", Integer.MIN_VALUE, -1, 0, 7);
        gives(x, "v%s", Integer.MIN_VALUE, -1, 0, 0);
        gives(x, "v+s=y", Integer.MAX_VALUE, 1, Integer.MIN_VALUE, 1);
        gives(x, "v-s=y", Integer.MIN_VALUE, 1, Integer.MAX_VALUE, 1);
        gives(x, "v*s=y", 65536, 65536, 0, 1);
        gives(x, "v<s", 1, 2, 0, 1);
        gives(x, "v<s", 2, 2, 0, 0);
        gives(x, "v>s", 2, 2, 0, 0);
        gives(x, "v>s", 3, 2, 0, 1);
        gives(x, "v=s", 2, 2, 0, 1);
        gives(x, "v=s", 3, 2, 0, 0);
        gives(x, "v>s+1", 3, 2, 0, 0);
        gives(x, "v|s", 0, 0, 0, 0);
        gives(x, "v|s", 0, -5, 0, 1);
        gives(x, "v|s", 8, 0, 0, 1);
        gives(x, "v&s", 8, 0, 0, 0);
        gives(x, "v&s", 8, -1, 0, 1);
        gives(x, "v|s&y", 1, 1, 0, 1);
        gives(x, "(v|s)&y", 1, 1, 0, 0);
        gives(x, "v&s=y", 1, 2, 2, 1);
        gives(x, "!v", 0, 0, 0, 1);
        gives(x, "!v", -3, 0, 0, 0);
        gives(x, "!!v", 9, 0, 0, 1);
        gives(x, "!v+s", 1, 5, 0, 5);
        gives(x, "!(v+s)", 1, -1, 0, 1);
        gives(x, "!v*7", 0, 0, 0, 7);
        gives(x, "0039", 0, 0, 0, 39);
        gives(x, "9999-9960", 0, 0, 0, 39);
        gives(x, "((((v))))+((((s))))", 4, 5, 0, 9);
    }

    private static void gives(VeilSteps ahead, String text, int v, int s, int y, int want) {
        VeilSteps x = new VeilSteps();
        Due.is("text " + text, Due.tell(x, 0, text), 1);
        Due.is(text + " of " + v + " " + s + " " + y, x.law(0, v, s, y), want);
    }

    private static void faults() {
        Due.about("promise 14, FAULT");
        String[] texts = {
            "", "+", "v+", "v+s v", "12345", "1234v", "v1", "1<2<3", "1<2=3", "1<2&3<4<5", "(1<2)<3<", "()", "(v", "(v))",
            "((((((v", "!!!!!!v", "!(!(!(v", "(((((v", "(((((v)))))", "!!!!!v+!!!!!(", "!!!!!v|(((((s)))))&!v", "(((((!", "!", "v!",
            "!)", "v()", "v&|s", "v||s", "-v", "v--s", "V", "vs", "v,s", "1+(2*3", "1+(2*3))", "((((12345))))", "(1<2<3)",
            "v\0", "\0", "v\u00ff", " v", "v ", "(v)(s)", "(((((1+(2", "!(((1+(2+((",
        };
        int[] due = {
            0, 0, 2, 3, 4, 4, 1, 3, 3, 7, 7, 1, 2, 3,
            5, 5, 5, 6, -11, 12, -11, 5, 1, 1,
            1, 1, 2, 2, 0, 2, 0, 1, 1, 6, 7, 8, 4,
            1, 0, 1, 0, 1, 3, 7, 9,
        };
        for (int i = 0; i < texts.length; i++) {
            VeilSteps x = new VeilSteps();
            Due.is("text " + texts[i], Due.tell(x, 0, texts[i]), -10 - due[i]);
        }
    }

    // The grammar once more, as the document writes it: which pieces are a T, an A, a B, ..,
    // with how many of ! and ( open around them.
    private static final class Definition {
        private final String text;
        private final int[] names;
        private final Map<Integer, Integer> known = new HashMap<>();
        private final Map<Integer, Boolean> is = new HashMap<>();

        Definition(String text, int[] names) {
            this.text = text;
            this.names = names;
        }

        boolean isText() {
            return is(0, 0, text.length(), 0);
        }

        int value() {
            return known.get(key(0, 0, text.length(), 0));
        }

        private static int key(int rule, int from, int to, int open) {
            return ((rule * 64 + from) * 64 + to) * 8 + open;
        }

        private boolean is(int rule, int from, int to, int open) {
            int key = key(rule, from, to, open);
            Boolean before = is.get(key);
            if (before == null) {
                before = rule == 5 ? isUnit(key, from, to, open) : isJoined(key, rule, from, to, open);
                is.put(key, before);
            }
            return before;
        }

        private int value(int rule, int from, int to, int open) {
            return known.get(key(rule, from, to, open));
        }

        private boolean isJoined(int key, int rule, int from, int to, int open) {
            if (is(rule + 1, from, to, open)) {
                known.put(key, value(rule + 1, from, to, open));
                return true;
            }
            String signs = new String[] {"|", "&", "<=>", "+-", "*/%"}[rule];
            int left = rule == 2 ? 3 : rule;
            for (int at = from + 1; at < to - 1; at++) {
                boolean joins = signs.indexOf(text.charAt(at)) >= 0;
                if (joins && is(left, from, at, open) && is(rule + 1, at + 1, to, open)) {
                    known.put(key, joined(text.charAt(at), value(left, from, at, open), value(rule + 1, at + 1, to, open)));
                    return true;
                }
            }
            return false;
        }

        private boolean isUnit(int key, int from, int to, int open) {
            if (from >= to) {
                return false;
            }
            String piece = text.substring(from, to);
            if (piece.matches("[0-9]{1,4}")) {
                known.put(key, Integer.parseInt(piece));
                return true;
            }
            if (piece.matches("[vsy]")) {
                known.put(key, names["vsy".indexOf(piece)]);
                return true;
            }
            if (open >= 5) {
                return false;
            }
            if (piece.startsWith("!") && is(5, from + 1, to, open + 1)) {
                known.put(key, value(5, from + 1, to, open + 1) == 0 ? 1 : 0);
                return true;
            }
            if (piece.startsWith("(") && piece.endsWith(")") && is(0, from + 1, to - 1, open + 1)) {
                known.put(key, value(0, from + 1, to - 1, open + 1));
                return true;
            }
            return false;
        }

        private static int joined(char sign, int a, int b) {
            switch (sign) {
                case '|': return a == 0 && b == 0 ? 0 : 1;
                case '&': return a == 0 || b == 0 ? 0 : 1;
                case '<': return Integer.compare(a, b) < 0 ? 1 : 0;
                case '=': return Integer.compare(a, b) == 0 ? 1 : 0;
                case '>': return Integer.compare(a, b) > 0 ? 1 : 0;
                case '+': return (int) ((long) a + b);
                case '-': return (int) ((long) a - b);
                case '*': return (int) ((long) a * b);
                case '/': return b == 0 ? 0 : (int) ((long) a / b);
                default: return b == 0 ? 0 : (int) ((long) a % b);
            }
        }
    }

    // Some TEXT goes on with a piece if it becomes one by closing what it has opened.
    private static boolean goesOn(String piece, int[] names) {
        for (String close = ""; close.length() <= 5; close += ")") {
            if (new Definition(piece + close, names).isText() || new Definition(piece + "1" + close, names).isText()) {
                return true;
            }
        }
        return false;
    }

    private static int faultOf(String text, int[] names) {
        for (int i = 0; i < text.length(); i++) {
            if (!goesOn(text.substring(0, i + 1), names)) {
                return i;
            }
        }
        return text.length();
    }

    private static void againstTheDefinition() {
        Due.about("promises 14 and 16, by the grammar");
        Random random = new Random(7);
        int texts = 0;
        for (int i = 0; i < 6000; i++) {
            String text = i % 3 == 0 ? signs(random) : spoilt(random, made(random, 0, 0));
            if (text.length() > 22) {
                continue;
            }
            int[] names = {random.nextInt(90) - 20, random.nextInt(50) - 4, random.nextInt(8)};
            Definition definition = new Definition(text, names);
            VeilSteps x = new VeilSteps();
            int got = Due.tell(x, 0, text);
            if (definition.isText()) {
                texts++;
                int value = definition.value();
                Due.is("text " + text, got, 1);
                Due.is("law " + text, x.law(0, names[0], names[1], names[2]), Math.max(0, Math.min(40, value)));
            } else {
                Due.is("text " + text, got, -10 - faultOf(text, names));
            }
        }
        Due.holds("enough of them are TEXTS", texts > 1500);
    }

    private static String signs(Random random) {
        String some = "vsy1230!()|&<=>+-*/%e";
        StringBuilder text = new StringBuilder();
        for (int n = random.nextInt(9); n > 0; n--) {
            text.append(some.charAt(random.nextInt(some.length())));
        }
        return text.toString();
    }

    private static String made(Random random, int rule, int deep) {
        if (rule == 5) {
            int pick = random.nextInt(deep > 5 ? 6 : 9);
            return pick < 3 ? "vsy".substring(pick, pick + 1)
                : pick < 6 ? Integer.toString(random.nextInt(pick == 3 ? 10000 : 10))
                : pick == 6 ? "!" + made(random, 5, deep + 1)
                : "(" + made(random, 0, deep + 1) + ")";
        }
        String signs = new String[] {"|", "&", "<=>", "+-", "*/%"}[rule];
        StringBuilder text = new StringBuilder(made(random, rule + 1, deep));
        for (int n = 0; n < 2 && random.nextInt(4) == 0; n++) {
            text.append(signs.charAt(random.nextInt(signs.length()))).append(made(random, rule + 1, deep));
        }
        return text.toString();
    }

    private static String spoilt(Random random, String text) {
        if (random.nextInt(3) != 0 || text.isEmpty()) {
            return text;
        }
        StringBuilder other = new StringBuilder(text);
        int at = random.nextInt(text.length());
        switch (random.nextInt(3)) {
            case 0: other.deleteCharAt(at); break;
            case 1: other.insert(at, "v1!()|<+*".charAt(random.nextInt(9))); break;
            default: other.setCharAt(at, "vs9!()&=-%x".charAt(random.nextInt(11))); break;
        }
        return other.toString();
    }
}
