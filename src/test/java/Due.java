// Holds answers against what is due, and tells those that are not.
final class Due {
    static final int BEYOND = -1000000001;
    static final int NONE = -1000000002;
    static final int STATE = -1000000003;
    static final int FULL = -1000000004;
    static final int KIND = -1000000005;
    static final int PARTED = -1000000006;

    private static String about = "";
    private static int asked = 0;
    private static int wrong = 0;

    private Due() {
    }

    static void about(String what) {
        about = what;
    }

    static void is(String call, long got, long want) {
        asked++;
        if (got != want) {
            wrong++;
            System.out.println(about + ": " + call + " answered " + got + ", due is " + want);
        }
    }

    static void holds(String what, boolean so) {
        is(what, so ? 1 : 0, 1);
    }

    static int wrong() {
        return wrong;
    }

    static void close() {
        System.out.println(asked + " asked, " + wrong + " wrong");
        if (wrong != 0 || asked == 0) {
            System.exit(1);
        }
    }

    // Feeds a text a byte a sign, as many at once as a word holds.
    static void feed(VeilSteps x, String text) {
        for (int from = 0; from < text.length(); from += 8) {
            int n = Math.min(8, text.length() - from);
            long word = 0;
            for (int i = n - 1; i >= 0; i--) {
                word = word << 8 | text.charAt(from + i) & 255;
            }
            x.feed(word, n);
        }
    }

    static int tell(VeilSteps x, int use, String text) {
        feed(x, text);
        return x.text(use);
    }

    // 0 WOMAN 5; below it 1 HEIRESS 3 and 2 JUDGE 4; below 1: 3 BALE 6 and 4 GOATHERD 2;
    // below 2: 5 RING 7; 6 STRANGER 4, near to nobody.
    static VeilSteps family() {
        VeilSteps x = new VeilSteps();
        x.person(5, -1);
        x.person(13, 0);
        x.person(24, 0);
        x.person(36, 1);
        x.person(42, 1);
        x.person(57, 2);
        x.person(64, -1);
        return x;
    }

    // So many WOMEN, near to nobody, each of whom sees 2.
    static VeilSteps women(int n) {
        VeilSteps x = new VeilSteps();
        for (int i = 0; i < n; i++) {
            x.person(0, -1);
        }
        return x;
    }

    // A line of WOMEN, each the child of the one ahead.
    static VeilSteps line(int n) {
        VeilSteps x = new VeilSteps();
        for (int i = 0; i < n; i++) {
            x.person(0, i - 1);
        }
        return x;
    }
}
