// Promises 29 and 30, and VOICES of Term 4: each boundary case that a sentence names.
public final class VoicesBoundsTest {
    private static final int MIN = Integer.MIN_VALUE;
    private static final int MAX = Integer.MAX_VALUE;
    private static final String EIGHT = "person(0, -1); ".repeat(8);

    public static void main(String[] args) {
        beyond();
        wraps();
        cuts();
        parted();
        strangers();
        anyNumber();
        kindsAbove();
        trace();
        traceBehindErrors();
        Due.close();
    }

    private static void beyond() {
        Script.about("promise 29: one of PEOPLE", EIGHT, "voice(7, 0, 1) = 8; voice(8, 0, 1) = BEYOND; voice(-1, 0, 1) = BEYOND; voice(MIN, 0, 1) = BEYOND; voice(MAX, 0, 1) = BEYOND");
        Script.about("promise 29: a VOICE 0 .. 3", EIGHT, "voice(0, 3, 1) = PARTED; voice(1, 3, 1) = -1; voice(0, 4, 1) = BEYOND; voice(0, -1, 1) = BEYOND; voice(0, MIN, 1) = BEYOND",
            "voice(0, MAX, 1) = BEYOND; voice(0, 4, MIN) = BEYOND; told(1) = 5; told(6) = 1");
        Script.about("promise 29: nobody", "voice(0, 0, 0) = BEYOND; voice(0, 3, 0) = BEYOND");
    }

    private static void says(int km, int k, int voice, long x, long due) {
        Script.of(EIGHT, "become(" + k + ", " + km + "); voice(" + k + ", " + voice + ", " + x + ") = " + due);
    }

    private static void wraps() {
        Due.about("Term 4: ints that wrap");
        says(0, 7, 0, MAX, MIN + 6);
        says(0, 1, 0, MAX, MIN);
        says(0, 0, 0, MAX, MAX);
        says(0, 0, 1, 1 << 30, MIN);
        says(0, 1, 1, MAX, 0);
        says(0, 0, 1, MIN, 0);
        says(0, 0, 1, -(1 << 30) - 1, MAX - 1);
        says(9, 0, 2, 1 << 30, MAX - 8);
        says(9, 0, 2, MIN, -9);
        says(0, 1, 3, MIN, MIN);
        says(0, 1, 3, MAX, MIN + 1);
        says(10, 0, 0, MIN, MAX - 3);
        says(10, 0, 0, MIN + 4, MIN);
        says(11, 0, 3, MIN, MAX - 5);
        says(11, 0, 3, MIN + 6, MIN);
        says(20, 0, 1, 1 << 30, MIN);
        says(20, 0, 1, MAX, 2);
        says(40, 0, 0, MAX, MAX - 14);
        says(40, 0, 0, 1 << 30, (int) (((1L << 30) - 4) * 3));
        says(50, 0, 1, MAX, 0);
        says(50, 0, 1, MAX - 1, 2);
        says(69, 7, 1, MAX, 27);
    }

    private static void cuts() {
        Due.about("Term 4: x by (m - k), cut toward 0");
        says(2, 0, 3, 7, 3);
        says(2, 0, 3, -7, -3);
        says(2, 0, 3, -1, 0);
        says(0, 2, 3, 7, -3);
        says(0, 2, 3, -7, 3);
        says(0, 7, 3, 6, 0);
        says(0, 7, 3, -7, 1);
        says(9, 0, 3, 8, 0);
        says(9, 0, 3, 9, 1);
        says(9, 0, 3, MIN, MIN / 9);
        says(9, 7, 3, MAX, MAX / 2);
        says(0, 0, 2, 0, 0);
        Due.about("Term 4: x / 2, cut toward 0");
        says(30, 0, 2, 7, 6);
        says(30, 0, 2, -7, -6);
        says(30, 0, 2, 1, 0);
        says(30, 0, 2, -1, 0);
        says(30, 0, 2, MIN, MIN);
        says(30, 0, 2, MAX, MAX - 1);
        says(39, 1, 2, -1, -7);
    }

    private static void parted() {
        Due.about("promise 29: PARTED if m is k");
        for (int kind = 0; kind < 7; kind++) {
            for (int k = 0; k < 8; k++) {
                int other = k == 0 ? 1 : k - 1;
                Script one = Script.of(EIGHT, "become(" + k + ", " + kind + k + "); voice(" + k + ", 3, 5) = PARTED; voice(" + k + ", 3, 0) = PARTED");
                one.asks("voice(" + k + ", 3, MIN) = PARTED; told(6) = 3; become(" + k + ", " + kind + other + ")");
                boolean heiress = kind == 1 || kind == 4;
                int lifts = (1 + k - 4) * (kind == 4 ? 3 : 1) * 2;
                one.asks("voice(" + k + ", 3, 5) = " + (5 / (other - k) + (heiress ? lifts : 0)) + "; told(6) = 3");
            }
        }
        Due.about("promise 29: no other VOICE is PARTED, though m is k");
        Script.of(EIGHT, "voice(0, 0, 0) = 0; voice(0, 1, 0) = 0; voice(0, 2, 0) = 0; become(0, 20); voice(0, 1, 1) = -2; voice(0, 2, 1) = -2; told(6) = 0");
    }

    private static void strangers() {
        Script.about("Term 4: a Stranger lowers 9 of whatever", EIGHT, "become(3, 69); voice(3, 0, MIN) = 9; voice(3, 0, MAX) = 9; voice(3, 1, 0) = 27; voice(3, 2, MAX) = 18",
            "become(3, 60); voice(3, 1, MIN) = 18; voice(3, 2, 0) = 18; voice(3, 3, 9) = -3");
        Script.about("Term 4: a Goatherd's ^ k", EIGHT, "become(7, 40); voice(7, 2, -3) = 7; voice(7, 2, -2) = 1; voice(7, 2, -4) = -3; become(0, 40); voice(0, 2, 4) = 0");
    }

    private static void anyNumber() {
        Script told = Script.about("promise 29: any number is no ERROR", EIGHT);
        for (int k = 1; k <= 6; k++) {
            told.asks("voice(0, 0, " + (-1000000000 - k) + ") = " + (-1000000000 - k) + "; told(" + k + ") = 0; count(7) = 1");
        }
        Script.of(EIGHT, "become(0, 1); voice(0, 3, PARTED) = PARTED; told(6) = 0; become(0, 0); voice(0, 3, PARTED) = PARTED; told(6) = 1");
    }

    private static void traced(String call, int km, int... bodies) {
        Script one = Script.of(EIGHT, "become(5, " + km + "); " + call + "; count(7) = " + bodies.length);
        for (int i = 0; i < bodies.length; i++) {
            one.asks("body(" + i + ") = " + bodies[i]);
        }
        one.asks("body(" + bodies.length + ") = NONE; body(-1) = NONE; told(2) = 2");
    }

    private static void kindsAbove() {
        Due.about("Term 4: the BODY of its KIND, or of the next above; super is from above the BODY's");
        int[][][] bodies = {
            {{10}, {11, 10}, {12, 11, 10}, {13}},
            {{20, 10}, {11, 20, 10}, {12, 11, 20, 10}, {21, 13, 11, 20, 10}},
            {{10}, {30, 11, 10}, {12, 30, 11, 10}, {13}},
            {{10}, {11, 10}, {40, 12, 11, 10}, {13}},
            {{50, 20, 10}, {11, 50, 20, 10}, {51, 12, 11, 50, 20, 10}, {21, 13, 11, 50, 20, 10}},
            {{10}, {60, 30, 11, 10}, {12, 60, 30, 11, 10}, {13}},
            {{70}, {71, 11, 70}, {12, 71, 11, 70}, {13}},
        };
        for (int kind = 0; kind < 7; kind++) {
            for (int voice = 0; voice < 4; voice++) {
                traced("voice(5, " + voice + ", 1)", kind * 10, bodies[kind][voice]);
            }
        }
    }

    private static void trace() {
        Script.about("promise 30: none ahead of any voice()", EIGHT, "count(7) = 0; body(0) = NONE; body(-1) = NONE; body(29) = NONE; body(30) = NONE; told(2) = 4");
        Script.about("promise 30: there is none such", EIGHT, "become(0, 49); voice(0, 2, 1); count(7) = 6; body(0) = 51; body(5) = 10; body(6) = NONE; body(-1) = NONE",
            "body(29) = NONE; body(30) = NONE; body(MIN) = NONE; body(MAX) = NONE");
        Script.about("Term 4: of the latest voice() alone", EIGHT, "become(0, 49); voice(0, 2, 1); voice(1, 0, 1); count(7) = 1; body(0) = 10; body(1) = NONE; voice(0, 0, 1)",
            "count(7) = 3; body(0) = 50; body(1) = 20; body(2) = 10; body(3) = NONE");
        Script.about("Term 4: of six at most, so never beyond the first 30", EIGHT, "become(0, 49); " + "voice(0, 3, 1); ".repeat(40) + "count(7) = 6; body(5) = 10; body(6) = NONE");
        Script.about("Term 4: become() does not change what was traced", EIGHT, "become(0, 49); voice(0, 0, 1); become(0, 0); count(7) = 3; body(0) = 50; year(5); count(7) = 3");
    }

    private static void traceBehindErrors() {
        Due.about("Term 4: behind PARTED, what began until then");
        for (int kind = 0; kind < 7; kind++) {
            traced("voice(5, 3, 7) = PARTED", kind * 10 + 5, kind == 1 || kind == 4 ? new int[] {21, 13} : new int[] {13});
        }
        Script.about("Terms: BEYOND leaves THE TRACE", EIGHT, "voice(0, 2, 1); voice(8, 0, 1) = BEYOND; voice(0, 4, 1) = BEYOND; voice(-1, -1, 1) = BEYOND; count(7) = 3; body(0) = 12");
    }
}
