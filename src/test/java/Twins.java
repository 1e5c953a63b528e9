import java.util.ArrayList;
import java.util.List;

// Two objects of which the one was asked something more: whatever the face can tell of the two
// afterwards, and behind a restore() as well, is alike.
final class Twins {
    private static final int LOW = -1000000000;
    private static final int ERRORS = 6;
    private static final int SHEETS = 4;
    // The one that scenes leave out, so that it errs itself.
    private static final int MISSING = 3;
    private static final int EIGHT = 8;

    private Twins() {
    }

    // A call that answers an ERROR changes nothing but what told() tells of that ERROR.
    static void refuses(String scene, String call, String error) {
        differ(scene + "; " + call + " = " + error, scene, error, true);
    }

    // The same, where THE TRACE is told to be of what began.
    static void refusesButForTheTrace(String scene, String call, String error) {
        differ(scene + "; " + call + " = " + error, scene, error, false);
    }

    // What the one was asked has left it as the other is.
    static void alike(String one, String other) {
        differ(one, other, "", true);
    }

    private static void differ(String one, String other, String error, boolean traced) {
        for (int restored = 0; restored < 2; restored++) {
            Script x = Script.of(one);
            Script y = Script.of(other);
            toldAlike(x, y, error);
            List<String> calls = new ArrayList<>();
            List<Integer> due = answersOf(y, restored > 0, traced, calls);
            List<Integer> got = answersOf(x, restored > 0, traced, new ArrayList<>());
            Due.is("how much there is to ask", got.size(), due.size());
            String behind = (restored > 0 ? "restored, " : "") + "behind " + one.substring(Math.max(0, one.length() - 40)) + ": ";
            for (int i = 0; i < due.size() && i < got.size(); i++) {
                Due.is(behind + calls.get(i), got.get(i), due.get(i));
            }
        }
    }

    private static void toldAlike(Script x, Script y, String error) {
        int k = error.isEmpty() ? 0 : LOW - (int) Script.number(error);
        for (int i = 1; i <= ERRORS; i++) {
            String told = "told(" + i + ")";
            Due.is(told, x.ask(told), y.ask(told) + (i == k ? 1 : 0));
        }
    }

    // What answers an ERROR itself is asked last, so that what an ERROR changes is seen ahead of it.
    private static List<Integer> answersOf(Script x, boolean restored, boolean traced, List<String> calls) {
        List<Integer> answers = new ArrayList<>();
        Asking asking = call -> {
            calls.add(call);
            answers.add(x.ask(call));
            return answers.get(answers.size() - 1);
        };
        if (restored) {
            asking.of("restore()");
        }
        counts(asking, traced);
        people(asking, x.ask("count(0)"));
        laws(asking);
        rows(asking);
        for (int i = x.ask("count(0)"); i < EIGHT; i++) {
            asking.of("person(0, -1)");
        }
        for (int sheet = 0; sheet < MISSING; sheet++) {
            numbers(asking, sheet);
        }
        for (int sheet = 0; sheet < MISSING; sheet++) {
            moreNumbers(asking, sheet);
        }
        numbers(asking, MISSING);
        moreNumbers(asking, MISSING);
        for (int sheet = 0; sheet < SHEETS; sheet++) {
            bounds(asking, sheet);
        }
        asking.of("image()");
        return answers;
    }

    private interface Asking {
        int of(String call);
    }

    private static void counts(Asking asking, boolean traced) {
        for (int what = 0; what < 9; what++) {
            if (what != 7) {
                asking.of("count(" + what + ")");
            }
        }
        if (traced) {
            int bodies = asking.of("count(7)");
            for (int i = 0; i < bodies; i++) {
                asking.of("body(" + i + ")");
            }
        }
    }

    private static void people(Asking asking, int people) {
        for (int one = 0; one < people; one++) {
            for (int what = 0; what < 6; what++) {
                asking.of("personIs(" + one + ", " + what + ")");
            }
            for (int other = 0; other < people; other++) {
                asking.of("lets(" + one + ", " + other + ")");
            }
            for (int other = 0; other < one; other++) {
                asking.of("steps(" + one + ", " + other + ")");
            }
        }
    }

    private static void laws(Asking asking) {
        for (int use = 0; use < 2; use++) {
            asking.of("law(" + use + ", 7, 5, 3)");
            asking.of("law(" + use + ", 17, 2, 11)");
        }
    }

    // What can't be looked at without being changed: MEETINGS, THE TAPE, the numbers that wait.
    private static void rows(Asking asking) {
        for (int place = 0; place < 6; place++) {
            asking.of("meets(" + place + ", 0, 1)");
        }
        asking.of("check()");
        asking.of("text(0)");
        asking.of("law(0, 7, 5, 3)");
    }

    // Eight numbers are read at once, as whom eight have SEEN.
    private static void numbers(Asking asking, int sheet) {
        asking.of("seenAll(" + sheet + ")");
        for (int i = 0; i < EIGHT; i++) {
            asking.of("personIs(" + i + ", 4)");
        }
    }

    private static void moreNumbers(Asking asking, int sheet) {
        asking.of("judge(" + sheet + ")");
        for (int from = EIGHT; from < 24; from += EIGHT) {
            asking.of("move(" + sheet + ", " + from + ", " + sheet + ", 0, 1)");
            asking.of("move(" + sheet + ", " + from + ", " + sheet + ", 0, 8)");
            numbers(asking, sheet);
        }
    }

    private static void bounds(Asking asking, int sheet) {
        for (int other = 0; other < sheet; other++) {
            asking.of("move(" + sheet + ", 0, " + other + ", 0, 0)");
        }
        for (int i = EIGHT; i < 11; i++) {
            asking.of("put(" + sheet + ", " + i + ", 0)");
        }
        asking.of("put(" + sheet + ", 23, 0)");
    }
}
