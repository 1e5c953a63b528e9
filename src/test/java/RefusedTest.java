// Each ERROR of each promise, in the order in which they are asked: it is answered, told() tells
// of it, and nothing else has changed behind it.
public final class RefusedTest {
    private static final String KIN =
        "person(5, -1); person(13, 0); person(24, 0); person(36, 1); person(42, 1); person(57, 2); person(64, -1); "
        + "marries(3, 6); meets(0, 0, 1); meets(1, 2, 0); meets(2, 1, 3); meets(3, 5, 2); meets(4, 4, 1); meets(5, 6, 3); "
        + "trade(0, 300); trade(1, 9); year(3); text(0, 'v*2-s'); text(1, 'e+y'); years(4); ";
    private static final String ROWS =
        "fill(0, 8, 1, 2, 3, 4, 5, 6, 7, 8, 9, 10, 11, 12, 13, 14, 15, 16, 17, 18, 19, 20, 21, 22, 23, 24); "
        + "fill(1, 16, 9, 8, 7, 6, 5, 4, 3, 2, 1); fill(2, 32, 128, 64, 32, 16, 8, 4, 2, 1); ";
    private static final String SINCE =
        "become(2, 31); trade(0, 250); descends(5, 1); parts(6); marries(0, 6); seed(77); year(21); meets(2, 6, 6); "
        + "feed('s+y'); tell(3); tell(9); tell(8); tell(0); voice(4, 2, 7)";
    // Seven of PEOPLE, all rows but SHEET 3, and an IMAGE that is not as all is now.
    private static final String VILLAGE = KIN + ROWS + "feed('v*'); tell(2); image(); " + SINCE;
    private static final String EIGHT = VILLAGE + "; person(18, 6)";
    private static final String NO_IMAGE = KIN + ROWS + "feed('v*'); tell(2); " + SINCE;
    private static final String LAST_YEAR = VILLAGE + "; year(9999)";
    // 5 bytes are there already.
    private static final String TAPE_OF_53 = VILLAGE + "; feed('" + "+1".repeat(24) + "')";
    private static final String TAPE_OF_60 = TAPE_OF_53 + "; feed('+1+1+1*')";
    private static final String ALONE =
        "person(5, -1); meets(0, 2, 3); trade(1, 9); text(0, 'v*2-s'); text(1, 'e+y'); " + ROWS + "feed('v'); image(); trade(0, 7); "
        + "feed('+s'); tell(2); voice(0, 2, 1); fill(3, 8, 1); seenAll(3)";

    public static void main(String[] args) {
        people();
        kin();
        meetingsAndTrade();
        texts();
        years();
        thought();
        fits();
        voices();
        sheets();
        move();
        told();
        Due.close();
    }

    private static void refuses(int promise, String scene, String error, String... calls) {
        for (String call : calls) {
            Due.about("promise " + promise + ", " + call + " is refused");
            Twins.refuses(scene, call, error);
        }
    }

    private static void people() {
        refuses(2, VILLAGE, "BEYOND", "person(-1, -1)", "person(70, -1)", "person(0, -2)", "person(0, 7)", "person(MIN, 0)",
            "person(MAX, 0)", "person(0, MIN)", "person(0, MAX)");
        refuses(2, EIGHT, "FULL", "person(0, -1)", "person(69, 7)");
        refuses(2, EIGHT, "BEYOND", "person(70, -1)", "person(-1, 0)", "person(0, 8)", "person(0, -2)");
        refuses(3, VILLAGE, "BEYOND", "personIs(-1, 0)", "personIs(7, 0)", "personIs(0, -1)", "personIs(0, 6)", "personIs(7, 6)");
        refuses(4, VILLAGE, "BEYOND", "become(-1, 0)", "become(7, 0)", "become(0, -1)", "become(0, 70)", "become(MAX, MIN)");
        refuses(5, VILLAGE, "BEYOND", "as(-1, 0)", "as(7, 0)", "as(0, -1)", "as(0, 7)", "as(7, 7)");
        refuses(5, VILLAGE, "KIND", "as(0, 1)", "as(0, 6)", "as(1, 4)", "as(4, 5)", "as(5, 1)", "as(6, 3)");
    }

    private static void kin() {
        refuses(6, VILLAGE, "BEYOND", "descends(-1, -1)", "descends(7, 0)", "descends(7, -1)", "descends(3, -2)", "descends(3, 3)",
            "descends(3, 4)", "descends(3, 7)", "descends(0, 0)", "descends(6, MAX)", "descends(MAX, 0)", "descends(0, MIN)");
        refuses(7, VILLAGE, "BEYOND", "marries(-1, 1)", "marries(1, -1)", "marries(7, 1)", "marries(1, 7)", "marries(1, 1)");
        refuses(7, VILLAGE, "BEYOND", "marries(0, 0)", "marries(0, 7)", "marries(7, 0)", "marries(-1, 6)", "marries(6, -1)");
        refuses(7, VILLAGE, "STATE", "marries(0, 1)", "marries(1, 0)", "marries(0, 6)", "marries(6, 0)", "marries(3, 6)");
        refuses(8, VILLAGE, "BEYOND", "parts(-1)", "parts(7)", "parts(MIN)", "parts(MAX)");
        refuses(8, VILLAGE, "NONE", "parts(3)", "parts(1)");
        refuses(9, VILLAGE, "BEYOND", "steps(-1, 0)", "steps(7, 0)", "steps(0, -1)", "steps(0, 7)", "steps(7, 7)");
        refuses(10, VILLAGE, "BEYOND", "lets(-1, 0)", "lets(7, 0)", "lets(0, -1)", "lets(0, 7)", "lets(7, 7)");
    }

    private static void meetingsAndTrade() {
        refuses(11, VILLAGE, "BEYOND", "meets(-1, 0, 1)", "meets(6, 0, 1)", "meets(0, -1, 1)", "meets(0, 8, 1)", "meets(0, 1, -1)",
            "meets(0, 1, 8)", "meets(MIN, MIN, MIN)", "meets(MAX, MAX, MAX)");
        refuses(12, VILLAGE, "BEYOND", "trade(-1, 0)", "trade(2, 0)", "trade(0, -1)", "trade(0, 1000)", "trade(1, -1)", "trade(1, 41)",
            "trade(1, 999)", "trade(0, MIN)", "trade(0, MAX)", "trade(1, MIN)", "trade(1, MAX)");
    }

    private static void texts() {
        refuses(13, VILLAGE, "BEYOND", "feed(43, 0)", "feed(43, 9)", "feed(43, -1)", "feed(43, MIN)", "feed(43, MAX)");
        refuses(13, TAPE_OF_53, "FULL", "feed(43, 8)");
        refuses(13, TAPE_OF_60, "FULL", "feed(43, 1)", "feed(43, 8)");
        refuses(13, TAPE_OF_60, "BEYOND", "feed(43, 0)", "feed(43, 9)");
        refuses(14, VILLAGE, "BEYOND", "text(-1)", "text(2)", "text(MIN)", "text(MAX)");
        refuses(14, VILLAGE + "; feed(' ')", "BEYOND", "text(-1)", "text(2)");
        refuses(14, TAPE_OF_60, "BEYOND", "text(-1)", "text(2)");
        refuses(15, VILLAGE, "BEYOND", "untell(-1)", "untell(2)", "untell(MIN)", "untell(MAX)");
        refuses(16, VILLAGE, "BEYOND", "law(-1, 1, 2, 3)", "law(2, 1, 2, 3)", "law(MIN, 0, 0, 0)", "law(MAX, 0, 0, 0)");
    }

    private static void years() {
        refuses(17, VILLAGE, "BEYOND", "years(0)", "years(61)", "years(-1)", "years(MIN)", "years(MAX)");
        refuses(17, LAST_YEAR, "STATE", "years(1)", "years(60)");
        refuses(17, LAST_YEAR, "BEYOND", "years(0)", "years(61)", "years(MAX)");
        refuses(17, VILLAGE + "; year(9940)", "STATE", "years(60)");
        refuses(18, VILLAGE, "BEYOND", "loose(0)", "loose(31)", "loose(-1)", "loose(MIN)", "loose(MAX)");
        refuses(18, LAST_YEAR, "STATE", "loose(1)", "loose(30)");
        refuses(18, LAST_YEAR, "BEYOND", "loose(0)", "loose(31)", "loose(MAX)");
        refuses(18, VILLAGE + "; year(9970)", "STATE", "loose(30)");
        refuses(19, VILLAGE, "BEYOND", "year(-1)", "year(10000)", "year(MIN)", "year(MAX)");
    }

    private static void thought() {
        refuses(21, VILLAGE, "BEYOND", "then(-1, 1)", "then(7, 1)", "then(0, -1)", "then(0, 61)", "then(MAX, MAX)");
        refuses(22, VILLAGE, "BEYOND", "soonest(-1, 0)", "soonest(7, 0)", "soonest(0, -1)", "soonest(0, 7)", "soonest(7, 7)");
        refuses(22, VILLAGE, "NONE", "soonest(0, 0)", "soonest(0, 6)");
        refuses(23, VILLAGE, "BEYOND", "match(-1, 0, 0)", "match(7, 0, 0)", "match(0, -1, 0)", "match(0, 7, 0)", "match(2, 3, -1)",
            "match(2, 3, 2)");
        refuses(23, VILLAGE, "NONE", "match(0, 1, 0)", "match(0, 1, 1)", "match(3, 3, 0)");
        refuses(23, VILLAGE, "BEYOND", "match(0, 1, 2)", "match(0, 1, -1)", "match(3, 3, 2)");
        refuses(24, VILLAGE, "BEYOND", "orderFor(-1, 1)", "orderFor(7, 1)", "orderFor(0, -1)", "orderFor(0, 41)");
        String seenWhatever = VILLAGE + "; trade(0, 0); meets(3, 0, 6)";
        refuses(24, seenWhatever, "NONE", "orderFor(6, 1)", "orderFor(6, 40)");
        refuses(24, seenWhatever, "BEYOND", "orderFor(6, 41)", "orderFor(7, 40)");
        refuses(25, VILLAGE, "BEYOND", "seers(-1)", "seers(7)", "seers(MIN)", "seers(MAX)");
        refuses(26, VILLAGE, "NONE", "witnesses(127)");
        refuses(26, VILLAGE, "BEYOND", "witnesses(-1)", "witnesses(128)", "witnesses(255)", "witnesses(MIN)", "witnesses(MAX)");
        refuses(27, VILLAGE, "BEYOND", "odds(-1, 0)", "odds(7, 0)", "odds(0, -1)", "odds(0, 2)");
        refuses(27, ALONE, "STATE", "odds(0, 0)", "odds(0, 1)");
        refuses(27, ALONE, "BEYOND", "odds(0, 2)", "odds(0, -1)", "odds(1, 0)");
    }

    private static void fits() {
        refuses(28, VILLAGE, "BEYOND", "fits(-1, 3, 0)", "fits(4, 3, 0)", "fits(0, -1, 0)", "fits(0, 7, 0)", "fits(0, 3, -1)",
            "fits(0, 3, 2)");
        refuses(28, VILLAGE, "NONE", "fits(3, 3, 0)", "fits(3, 0, 1)");
        refuses(28, VILLAGE, "BEYOND", "fits(3, 7, 0)", "fits(3, -1, 1)", "fits(3, 3, 2)", "fits(3, 3, -1)");
    }

    private static void voices() {
        refuses(29, VILLAGE, "BEYOND", "voice(-1, 0, 1)", "voice(7, 0, 1)", "voice(0, -1, 1)", "voice(0, 4, 1)", "voice(7, 4, 1)");
        // m is k: THE TRACE is then of what began, as of the latest voice().
        for (int kind = 0; kind < 7; kind++) {
            Due.about("promise 29, PARTED, of KIND " + kind);
            String scene = VILLAGE + "; become(5, " + kind + "5)";
            Twins.refusesButForTheTrace(scene, "voice(5, 3, 9)", "PARTED");
            Twins.refusesButForTheTrace(scene, "voice(5, 3, 0)", "PARTED");
        }
        refuses(29, VILLAGE + "; become(5, 5)", "BEYOND", "voice(5, 4, 1)", "voice(7, 3, 1)");
        refuses(30, VILLAGE, "NONE", "body(-1)", "body(6)", "body(30)", "body(MIN)", "body(MAX)");
    }

    private static void sheets() {
        refuses(31, VILLAGE, "BEYOND", "sheet(-1, 8, 1)", "sheet(4, 8, 1)", "sheet(4, 0, 1)", "sheet(0, 7, 1)", "sheet(0, 9, 1)",
            "sheet(0, 1, 1)", "sheet(0, 24, 1)", "sheet(0, 64, 1)", "sheet(0, -8, 1)", "sheet(0, MIN, 1)");
        refuses(31, VILLAGE, "STATE", "sheet(0, 8, -1)", "sheet(1, 16, -1)", "sheet(2, 32, MIN)", "sheet(3, 32, -1)");
        refuses(31, VILLAGE, "BEYOND", "sheet(0, 8, 25)", "sheet(1, 16, 25)", "sheet(2, 32, MAX)", "sheet(3, 32, 25)");
        refuses(31, VILLAGE, "BEYOND", "sheet(4, 8, -1)", "sheet(-1, 8, -1)", "sheet(0, 7, -1)", "sheet(0, 1, MIN)");
        refuses(32, VILLAGE, "BEYOND", "put(-1, 0, 99)", "put(4, 0, 99)", "put(MIN, 0, 99)", "put(MAX, 0, 99)");
        refuses(32, VILLAGE, "NONE", "put(3, 0, 99)", "put(3, -1, 99)", "put(3, 24, 99)");
        refuses(32, VILLAGE, "BEYOND", "put(0, -1, 99)", "put(0, 24, 99)", "put(1, 9, 99)", "put(2, 8, 99)", "put(2, MIN, 99)",
            "put(2, MAX, 99)");
        refuses(34, VILLAGE, "BEYOND", "seenAll(-1)", "seenAll(4)", "seenAll(MIN)", "seenAll(MAX)");
        refuses(34, VILLAGE, "NONE", "seenAll(3)");
        refuses(35, VILLAGE, "BEYOND", "judge(-1)", "judge(4)", "judge(MIN)", "judge(MAX)");
        refuses(35, VILLAGE, "NONE", "judge(3)");
    }

    private static void move() {
        refuses(33, VILLAGE, "BEYOND", "move(-1, 0, 0, 0, 1)", "move(4, 0, 0, 0, 1)", "move(0, 0, -1, 0, 1)", "move(0, 0, 4, 0, 1)");
        refuses(33, VILLAGE, "BEYOND", "move(3, 0, 4, 0, 1)", "move(-1, 0, 3, 0, 1)", "move(4, -1, -1, -1, -1)");
        refuses(33, VILLAGE, "NONE", "move(3, 0, 0, 0, 1)", "move(0, 0, 3, 0, 1)", "move(3, 0, 3, 0, 0)", "move(3, -1, 0, -1, -1)",
            "move(0, 25, 3, 25, 25)");
        refuses(33, VILLAGE, "KIND", "move(0, 0, 1, 0, 1)", "move(1, 0, 2, 0, 1)", "move(2, 0, 0, 0, 0)", "move(0, -1, 1, 0, 1)",
            "move(0, 0, 2, 0, 25)", "move(1, 0, 0, MIN, MAX)");
        refuses(33, VILLAGE, "BEYOND", "move(1, 0, 1, 0, -1)", "move(1, -1, 1, 0, 1)", "move(1, 0, 1, -1, 1)", "move(1, 0, 1, 0, 10)",
            "move(1, 1, 1, 0, 9)", "move(1, 0, 1, 1, 9)", "move(1, 9, 1, 0, 1)", "move(1, 0, 1, 9, 1)", "move(1, 10, 1, 0, 0)",
            "move(1, 0, 1, 10, 0)", "move(1, -1, 1, 0, 0)", "move(1, 0, 1, -1, 0)", "move(1, 1, 1, 0, MAX)",
            "move(1, MAX, 1, 0, 1)", "move(1, 0, 1, MAX, 1)", "move(1, MAX, 1, MAX, MAX)", "move(1, MIN, 1, MIN, MIN)");
    }

    private static void told() {
        refuses(37, NO_IMAGE, "NONE", "restore()");
        refuses(38, VILLAGE + "; tell(1)".repeat(19), "FULL", "tell(1)", "tell(MIN)");
        refuses(40, VILLAGE, "BEYOND", "count(-1)", "count(9)", "count(MIN)", "count(MAX)");
        refuses(41, VILLAGE, "BEYOND", "told(0)", "told(7)", "told(-1)", "told(MIN)", "told(MAX)");
    }
}
