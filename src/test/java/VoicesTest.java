// Promises 29 and 30: voices and THE TRACE.
public final class VoicesTest {
    private static final int MIN = Integer.MIN_VALUE;
    private static final int MAX = Integer.MAX_VALUE;

    public static void main(String[] args) {
        voice();
        parted();
        anyNumber();
        body();
        Due.close();
    }

    // The one asked is number 2, with m as told, of the KIND in turn.
    private static void says(int kind, int m, int voice, int x, int want, int... trace) {
        VeilSteps v = Due.women(3);
        v.become(2, kind * 10 + m);
        String call = "kind " + kind + ", m " + m + ": voice(2, " + voice + ", " + x + ")";
        Due.is(call, v.voice(2, voice, x), want);
        Due.is(call + ", BODIES", v.count(7), trace.length);
        for (int i = 0; i < trace.length; i++) {
            Due.is(call + ", body(" + i + ")", v.body(i), trace[i]);
        }
        Due.is(call + ", body beyond", v.body(trace.length), Due.NONE);
    }

    private static void voice() {
        Due.about("promise 29");
        says(0, 5, 0, 7, 9, 10);
        says(0, 5, 1, 7, 18, 11, 10);
        says(0, 5, 2, 7, 13, 12, 11, 10);
        says(0, 5, 3, 7, 2, 13);
        says(0, 5, 3, -7, -2, 13);
        says(0, 1, 3, MIN, MIN, 13);
        says(1, 5, 0, 7, 5, 20, 10);
        says(1, 5, 1, 7, 10, 11, 20, 10);
        says(1, 5, 2, 7, 5, 12, 11, 20, 10);
        says(1, 5, 3, 7, 0, 21, 13, 11, 20, 10);
        says(2, 5, 0, 7, 9, 10);
        says(2, 5, 1, 7, -18, 30, 11, 10);
        says(2, 5, 2, 7, -23, 12, 30, 11, 10);
        says(2, 5, 3, 9, 3, 13);
        says(3, 5, 0, 7, 9, 10);
        says(3, 5, 1, 7, 18, 11, 10);
        says(3, 5, 2, 7, 5, 40, 12, 11, 10);
        says(3, 5, 2, -7, -7, 40, 12, 11, 10);
        says(3, 5, 3, 7, 2, 13);
        says(4, 5, 0, 7, 15, 50, 20, 10);
        says(4, 5, 1, 7, 30, 11, 50, 20, 10);
        says(4, 5, 2, 7, 27, 51, 12, 11, 50, 20, 10);
        says(4, 3, 2, 7, 25, 51, 12, 11, 50, 20, 10);
        says(4, 5, 3, 9, -3, 21, 13, 11, 50, 20, 10);
        says(5, 5, 0, 7, 9, 10);
        says(5, 5, 1, 7, -20, 60, 30, 11, 10);
        says(5, 5, 2, 7, -25, 12, 60, 30, 11, 10);
        says(5, 5, 3, 9, 3, 13);
        says(6, 5, 0, 7, 9, 70);
        says(6, 5, 1, 7, 23, 71, 11, 70);
        says(6, 5, 2, 7, 18, 12, 71, 11, 70);
        says(6, 5, 3, 9, 3, 13);
        says(0, 0, 0, MAX, MIN + 1, 10);
        says(0, 0, 1, MAX, 2, 11, 10);
        says(2, 0, 1, MAX / 2, MIN + 2 - 4, 30, 11, 10);
        voiceBeyond();
    }

    private static void voiceBeyond() {
        VeilSteps v = Due.women(1);
        Due.is("voice(1, 0, 0)", v.voice(1, 0, 0), Due.BEYOND);
        Due.is("voice(-1, 0, 0)", v.voice(-1, 0, 0), Due.BEYOND);
        Due.is("voice(0, 4, 0)", v.voice(0, 4, 0), Due.BEYOND);
        Due.is("voice(0, -1, 0)", v.voice(0, -1, 0), Due.BEYOND);
        Due.is("voice(MAX, MIN, 0)", v.voice(MAX, MIN, 0), Due.BEYOND);
        Due.is("told(1)", v.told(1), 5);
    }

    private static void parted() {
        Due.about("promise 29, PARTED");
        for (int kind = 0; kind < 7; kind++) {
            VeilSteps v = Due.women(3);
            v.become(2, kind * 10 + 2);
            boolean heiress = kind == 1 || kind == 4;
            Due.is("m is k, kind " + kind, v.voice(2, 3, 8), Due.PARTED);
            Due.is("told(6)", v.told(6), 1);
            Due.is("BODIES that began", v.count(7), heiress ? 2 : 1);
            Due.is("the first", v.body(0), heiress ? 21 : 13);
            Due.is("the second", v.body(1), heiress ? 13 : Due.NONE);
            Due.is("0 is parted too", v.voice(2, 3, 0), Due.PARTED);
            Due.is("another VOICE is not", v.voice(2, 0, MIN) == Due.PARTED ? 1 : 0, 0);
            v.become(2, kind * 10 + 3);
            Due.is("by 1", v.voice(2, 3, 8) == Due.PARTED ? 1 : 0, 0);
            Due.is("told(6)", v.told(6), 2);
        }
    }

    private static void anyNumber() {
        Due.about("promise 29, any number");
        VeilSteps v = Due.women(1);
        for (int k = 1; k <= 6; k++) {
            Due.is("lowers an ERROR", v.voice(0, 0, -1000000000 - k), -1000000000 - k);
            Due.is("told(" + k + ")", v.told(k), 0);
        }
        v.become(0, 1);
        Due.is("parts an ERROR by 1", v.voice(0, 3, Due.PARTED), Due.PARTED);
        Due.is("told(6)", v.told(6), 0);
    }

    private static void body() {
        Due.about("promise 30");
        VeilSteps v = Due.women(2);
        Due.is("ahead of any voice()", v.body(0), Due.NONE);
        v.voice(1, 2, 7);
        Due.is("body(0)", v.body(0), 12);
        Due.is("body(1)", v.body(1), 11);
        Due.is("body(2)", v.body(2), 10);
        Due.is("body(3)", v.body(3), Due.NONE);
        Due.is("body(-1)", v.body(-1), Due.NONE);
        Due.is("body(MIN)", v.body(MIN), Due.NONE);
        Due.is("body(MAX)", v.body(MAX), Due.NONE);
        Due.is("voice(2, 0, 0)", v.voice(2, 0, 0), Due.BEYOND);
        Due.is("voice(0, 4, 0)", v.voice(0, 4, 0), Due.BEYOND);
        Due.is("an ERROR of the asking leaves THE TRACE", v.body(0), 12);
        v.voice(1, 0, 7);
        Due.is("of the latest alone", v.body(0), 10);
        Due.is("of the latest alone", v.body(1), Due.NONE);
        Due.is("told(2)", v.told(2), 6);
    }
}
