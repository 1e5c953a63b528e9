// Promises 1 to 12 and Term 1: each boundary case that a sentence names, on the bound and one beyond it.
public final class PeopleBoundsTest {
    private static final String LINE =
        "person(0, -1); person(0, 0); person(0, 1); person(0, 2); person(0, 3); person(0, 4); person(0, 5); person(0, 6)";
    private static final String APART =
        "person(0, -1); person(0, -1); person(0, -1); person(0, -1); person(0, -1); person(0, -1); person(0, -1); person(0, -1)";

    public static void main(String[] args) {
        atFirst();
        errors();
        yearClothOrder();
        people();
        kinds();
        kindsUnder();
        parents();
        spouses();
        kin();
        meetings();
        letsOfKinds();
        letsHeld();
        looksOfKinds();
        looksOfNear();
        Due.close();
    }

    private static void atFirst() {
        Script.about("promise 1: nobody", "count(0) = 0; count(4) = 0; personIs(0, 0) = BEYOND; seers(0) = BEYOND; steps(0, 0) = BEYOND",
            "lets(0, 0) = BEYOND; become(0, 0) = BEYOND; as(0, 0) = BEYOND; descends(0, -1) = BEYOND; parts(0) = BEYOND",
            "marries(0, 1) = BEYOND; then(0, 0) = BEYOND; soonest(0, 0) = BEYOND; match(0, 0, 0) = BEYOND; orderFor(0, 0) = BEYOND",
            "odds(0, 0) = BEYOND; voice(0, 0, 0) = BEYOND; fits(0, 0, 0) = BEYOND; told(1) = 16; witnesses(0) = 0; years(60) = 0");
        Script.about("promise 1: no TEXTS", "untell(0) = 0; untell(1) = 0; law(0, 41, 9, 9) = 40; law(1, 41, 9, 9) = 40; law(0, 7, 9, 9) = 7");
        Script.about("promise 1: nothing fed, nothing waits", "count(5) = 0; count(6) = 0; check() = 0; text(0) = -10");
        Script.about("promise 1: no THE TRACE", "count(7) = 0; body(0) = NONE");
        Script.about("promise 1: no SHEETS", "seenAll(0) = NONE; seenAll(1) = NONE; seenAll(2) = NONE; seenAll(3) = NONE; judge(4) = BEYOND");
        Script.about("promise 1: no IMAGE", "restore() = NONE; image() = 1; restore() = 0");
        Script.about("Term 1: z is 1 at first", "count(8) = 1; seed(5) = 1");
        Script.about("promise 1: none told", "told(1) = 0; told(2) = 0; told(3) = 0; told(4) = 0; told(5) = 0; told(6) = 0");
        Script.about("promise 1: all of it as at first for a later object", LINE, "years(9)");
        Script.of("count(0) = 0; count(1) = 0; count(2) = 100; count(3) = 5; count(4) = 0");
    }

    private static void errors() {
        Script.about("Terms: LOW - 1 BEYOND", "count(9) = -1000000001");
        Script.about("Terms: LOW - 2 NONE", "restore() = -1000000002");
        Script.about("Terms: LOW - 3 STATE", "person(0, -1); odds(0, 0) = -1000000003");
        Script.about("Terms: LOW - 4 FULL", "tell(1); ".repeat(24) + "tell(1) = -1000000004");
        Script.about("Terms: LOW - 5 KIND", "person(0, -1); as(0, 1) = -1000000005");
        Script.about("Terms: LOW - 6 PARTED", "person(0, -1); voice(0, 3, 1) = -1000000006");
    }

    private static void yearClothOrder() {
        Script.about("Term 1: YEAR 0 .. 9999, 0 at first", "count(1) = 0; year(9999) = 0; count(1) = 9999; year(10000) = BEYOND",
            "year(-1) = BEYOND; year(MIN) = BEYOND; year(MAX) = BEYOND; count(1) = 9999; year(0) = 9999; count(1) = 0");
        Script.about("Term 1: CLOTH 0 .. 999, 100 at first", "count(2) = 100; trade(0, 999) = 100; count(2) = 999; trade(0, 1000) = BEYOND",
            "trade(0, -1) = BEYOND; trade(0, MIN) = BEYOND; trade(0, MAX) = BEYOND; trade(0, 0) = 999; count(2) = 0; trade(0, 41) = 0");
        Script.about("Term 1: ORDER 0 .. 40, 5 at first", "count(3) = 5; trade(1, 40) = 5; count(3) = 40; trade(1, 41) = BEYOND",
            "trade(1, -1) = BEYOND; trade(1, MIN) = BEYOND; trade(1, MAX) = BEYOND; trade(1, 0) = 40; count(3) = 0; count(2) = 100");
        Script.about("promise 12: what is 0 or 1", "trade(-1, 5) = BEYOND; trade(2, 5) = BEYOND; count(2) = 100; count(3) = 5");
    }

    private static void people() {
        Script.about("Term 1: PEOPLE 0, 1, .. (at most 8)", "person(0, -1) = 0; person(0, -1) = 1; person(0, -1) = 2; person(0, -1) = 3",
            "person(0, -1) = 4; person(0, -1) = 5; person(0, -1) = 6; person(0, -1) = 7; person(0, -1) = FULL; count(0) = 8",
            "personIs(7, 0) = 0; personIs(8, 0) = BEYOND; personIs(-1, 0) = BEYOND");
        Script.about("promise 2: BEYOND is asked ahead of FULL", APART, "person(70, -1) = BEYOND; person(-1, 0) = BEYOND",
            "person(0, 8) = BEYOND; person(0, -2) = BEYOND; person(69, 7) = FULL; told(1) = 4; told(4) = 1");
        Script.about("Term 1: SEEN is none at first", APART, "personIs(0, 4) = 0; personIs(7, 4) = 0; count(4) = 0; seers(7) = 0");
        Script.about("promise 3: what is 0 .. 5", "person(5, -1); personIs(0, 5) = 2; personIs(0, 6) = BEYOND; personIs(0, -1) = BEYOND",
            "personIs(0, 0) = 0; personIs(0, MIN) = BEYOND; personIs(0, MAX) = BEYOND; told(1) = 4");
        Script.about("promise 3: 4 is a set, of all eight at most", APART, "fill(0, 32, 255, 0, 128); seenAll(0) = 3",
            "personIs(0, 4) = 255; personIs(1, 4) = 0; personIs(2, 4) = 128");
    }

    private static void kinds() {
        Script.about("Term 1: KINDS 0 .. 6, m 0 .. 9", "person(0, -1); person(9, -1); person(10, -1); person(60, -1); person(69, -1)",
            "personIs(0, 0) = 0; personIs(0, 1) = 0; personIs(1, 0) = 0; personIs(1, 1) = 9; personIs(2, 0) = 1; personIs(2, 1) = 0",
            "personIs(3, 0) = 6; personIs(3, 1) = 0; personIs(4, 0) = 6; personIs(4, 1) = 9");
        Script.about("promise 2: km 0 .. 69", "person(-1, -1) = BEYOND; person(70, -1) = BEYOND; person(MIN, -1) = BEYOND",
            "person(MAX, -1) = BEYOND; count(0) = 0; person(69, -1) = 0; person(0, -1) = 1");
        Script.about("promise 4: km 0 .. 69", "person(35, -1); become(0, -1) = BEYOND; become(0, 70) = BEYOND; become(0, MIN) = BEYOND",
            "become(0, MAX) = BEYOND; personIs(0, 0) = 3; personIs(0, 1) = 5; become(0, 69) = 3; become(0, 0) = 6; become(0, 9) = 0",
            "become(0, 10) = 0; become(0, 10) = 1; personIs(0, 1) = 0");
        Script.about("promise 4: one who has become another is nobody new", LINE, "marries(0, 7); years(1) = 1; become(0, 69) = 0",
            "personIs(0, 2) = -1; personIs(0, 3) = 7; personIs(0, 4) = 2; personIs(1, 2) = 0; steps(0, 7) = 1; count(0) = 8");
        Script.about("promise 5: a KIND 0 .. 6", "person(69, -1); as(0, 6) = 9; as(0, 7) = BEYOND; as(0, -1) = BEYOND; as(0, 0) = 9",
            "as(0, MIN) = BEYOND; as(0, MAX) = BEYOND; as(0, 5) = KIND; told(1) = 4; told(5) = 1");
    }

    private static void kindsUnder() {
        String[] under = {"0", "01", "02", "03", "014", "025", "06"};
        for (int kind = 0; kind < 7; kind++) {
            Script one = Script.about("Term 1: what KIND " + kind + " is under", "person(" + (kind * 10 + 7) + ", -1)");
            for (int upper = 0; upper < 7; upper++) {
                one.asks("as(0, " + upper + ") = " + (under[kind].indexOf('0' + upper) >= 0 ? "7" : "KIND"));
            }
        }
    }

    private static void parents() {
        Script.about("Term 1: a PARENT is one of a lesser number, or nobody", "person(0, 0) = BEYOND; person(0, -1) = 0; person(0, 1) = BEYOND",
            "person(0, 0) = 1; person(0, -2) = BEYOND; person(0, 2) = BEYOND; person(0, 1) = 2; personIs(0, 2) = -1; personIs(1, 2) = 0",
            "personIs(2, 2) = 1; person(0, MIN) = BEYOND; person(0, MAX) = BEYOND");
        Script.about("promise 6: one that isn't of a lesser number", LINE, "descends(3, 3) = BEYOND; descends(3, 4) = BEYOND",
            "descends(3, 2) = 2; descends(3, 0) = 2; descends(3, -1) = 0; descends(3, -1) = -1; descends(3, -2) = BEYOND",
            "descends(0, 0) = BEYOND; descends(0, -1) = -1; descends(7, 6) = 6; descends(7, 7) = BEYOND; descends(7, 8) = BEYOND",
            "descends(8, 0) = BEYOND; descends(8, -1) = BEYOND; descends(-1, -1) = BEYOND; descends(MAX, -1) = BEYOND");
        Script.about("promise 6: the last number is nobody's PARENT", LINE, "descends(0, 7) = BEYOND; descends(6, 7) = BEYOND; personIs(6, 2) = 5");
    }

    private static void spouses() {
        Script.about("Term 1: a SPOUSE is another one, nobody at first", LINE, "personIs(0, 3) = -1; personIs(7, 3) = -1; marries(0, 0) = BEYOND",
            "marries(7, 7) = BEYOND; marries(7, 0) = 2; personIs(0, 3) = 7; personIs(7, 3) = 0; personIs(1, 3) = -1");
        Script.about("promise 7: BEYOND is asked ahead of STATE", LINE, "marries(0, 7); marries(0, 0) = BEYOND; marries(0, 8) = BEYOND",
            "marries(8, 0) = BEYOND; marries(-1, 7) = BEYOND; marries(7, -1) = BEYOND; told(1) = 5; told(3) = 0");
        Script.about("promise 7: one or the other has a SPOUSE", LINE, "marries(0, 7); marries(0, 1) = STATE; marries(1, 0) = STATE",
            "marries(7, 1) = STATE; marries(1, 7) = STATE; marries(0, 7) = STATE; marries(7, 0) = STATE; marries(1, 2) = 2; told(3) = 6");
        Script.about("promise 7: how many are one STEP off: none but the SPOUSE", APART, "marries(3, 4) = 1; marries(0, 7) = 1");
        Script.about("promise 7: all seven others", "person(0, -1); person(0, 0); person(0, 0); person(0, 0); person(0, 0); person(0, 0); person(0, 0)",
            "person(0, -1); marries(0, 7) = 7; parts(7) = 0; marries(7, 0) = 1; parts(0) = 7; marries(0, 1) = 6");
        Script.about("promise 8: there is none", LINE, "parts(0) = NONE; marries(0, 1) = 1; parts(1) = 0; parts(1) = NONE; parts(0) = NONE",
            "marries(0, 7) = 2; parts(0) = 7; parts(7) = NONE; parts(8) = BEYOND; parts(-1) = BEYOND; told(2) = 4; personIs(0, 3) = -1; personIs(7, 3) = -1");
    }

    private static void kin() {
        Script.about("Term 1: to the PARENT, to each child, to the SPOUSE it is one STEP", LINE, "steps(1, 0) = 1; steps(0, 1) = 1",
            "marries(0, 7); steps(0, 7) = 1; steps(7, 0) = 1; steps(0, 2) = 2; steps(7, 1) = 2; steps(0, 4) = 4; steps(0, 5) = 3");
        Script.about("Term 1: 0, one and the same", LINE, "steps(0, 0) = 0; steps(7, 7) = 0; descends(7, -1); steps(7, 7) = 0");
        Script.about("Term 1: seven STEPS, one behind the other, are the most", LINE, "steps(0, 7) = 7; steps(7, 0) = 7; steps(1, 7) = 6");
        Script.about("Term 1: 40, if there are none", APART, "steps(0, 7) = 40; steps(7, 0) = 40; descends(7, 0); steps(7, 0) = 1; steps(7, 1) = 40");
        Script.about("Term 1: the fewest of two ways", LINE, "marries(1, 6); steps(0, 7) = 3; steps(2, 5) = 3; steps(2, 6) = 2; parts(1); steps(0, 7) = 7");
        Script.about("Term 1: a PARENT that is the SPOUSE is one STEP off, and one of others", LINE, "marries(1, 0) = 2; steps(0, 1) = 1",
            "descends(1, -1); steps(0, 1) = 1; parts(0); steps(0, 1) = 40");
        Script.about("promises 9 and 10: PEOPLE alone", LINE, "steps(8, 0) = BEYOND; steps(0, 8) = BEYOND; steps(-1, 0) = BEYOND; steps(0, -1) = BEYOND",
            "lets(8, 0) = BEYOND; lets(0, 8) = BEYOND; lets(-1, 0) = BEYOND; lets(0, -1) = BEYOND; lets(7, 7) = 0; lets(0, 7) = 7");
    }

    private static void meetings() {
        Script all = Script.about("Term 1: places 0 .. 5, 0 and 1 at first");
        for (int place = 0; place < 6; place++) {
            all.asks("meets(" + place + ", 7, 0) = 1; meets(" + place + ", 0, 7) = 70; meets(" + place + ", 7, 7) = 7; meets(" + place + ", 0, 0) = 77");
        }
        all.asks("meets(5, 0, 1) = 0; meets(6, 0, 1) = BEYOND; meets(-1, 0, 1) = BEYOND; meets(MIN, 0, 1) = BEYOND; meets(MAX, 0, 1) = BEYOND");
        Script.about("promise 11: two numbers, 0 .. 7 each, of PEOPLE or not", "meets(0, 7, 6) = 1; meets(0, 8, 1) = BEYOND; meets(0, 0, 8) = BEYOND",
            "meets(0, -1, 1) = BEYOND; meets(0, 0, -1) = BEYOND; meets(0, MAX, 1) = BEYOND; meets(0, 0, MIN) = BEYOND; meets(0, 0, 0) = 76");
    }

    // One at the head of a line lets down for the one so many STEPS off, and for a stranger.
    private static void lets(int km, int... due) {
        Script one = Script.about("Term 1: LETS of " + km, LINE, "become(0, " + km + ")");
        for (int steps = 0; steps < 8; steps++) {
            one.asks("lets(0, " + steps + ") = " + due[steps]);
        }
        one.asks("descends(7, -1); lets(0, 7) = " + due[8]);
    }

    private static void letsOfKinds() {
        lets(9, 0, 1, 2, 3, 4, 5, 6, 7, 40);
        lets(19, 0, 0, 1, 1, 2, 2, 3, 3, 20);
        lets(29, 0, 0, 2, 1, 4, 1, 6, 2, 40);
        lets(39, 0, 2, 4, 6, 8, 10, 12, 14, 40);
        lets(40, 0, 0, 1, 1, 2, 2, 3, 3, 20);
        lets(49, 9, 9, 10, 10, 11, 11, 12, 12, 29);
        lets(59, 0, 0, 2, 1, 4, 1, 4, 2, 4);
        lets(69, 1, 2, 3, 40, 40, 40, 40, 40, 40);
    }

    private static void letsHeld() {
        Script.about("Term 2: held within 0 .. 40 without a TEXT", APART, "become(0, 30); lets(0, 1) = 40; law(0, 80, 40, 0) = 40");
        Script.about("Term 2: v is not held ahead of the TEXT", APART, "become(0, 30); text(0, 'v-41') = 1; lets(0, 1) = 39; text(0, 'v-40') = 1",
            "lets(0, 1) = 40; text(0, 'v-39') = 1; lets(0, 1) = 40; text(0, 'v-80') = 1; lets(0, 1) = 0; text(0, 'v-81') = 1; lets(0, 1) = 0");
        Script.about("Term 2: y is the rest of YEAR by 8", "person(0, -1); text(0, 'y') = 1; lets(0, 0) = 0; year(7); lets(0, 0) = 7; year(8)",
            "lets(0, 0) = 0; year(9); lets(0, 0) = 1; year(9999); lets(0, 0) = 7; year(9992); lets(0, 0) = 0");
        Script.about("Term 2: s is STEPS, 0 .. 7 or 40", LINE, "become(0, 60); text(0, 's') = 1; lets(0, 0) = 0; lets(0, 7) = 7; lets(7, 0) = 7",
            "descends(7, -1); lets(0, 7) = 40; text(0, 's-1') = 1; lets(0, 0) = 0; lets(0, 1) = 0; lets(0, 2) = 1; lets(0, 7) = 39");
    }

    private static void looks(int km, int even, int odd) {
        Script one = Script.about("Term 1: LOOKS of " + km, "person(" + km + ", -1)");
        one.asks("personIs(0, 5) = " + even + "; year(1); personIs(0, 5) = " + odd);
        one.asks("year(9999); personIs(0, 5) = " + odd + "; year(9998); personIs(0, 5) = " + even);
    }

    private static void looksOfKinds() {
        looks(9, 2, 2);
        looks(19, 2, 2);
        looks(29, 5, 5);
        looks(39, 1, 1);
        looks(40, 2, 2);
        looks(49, 11, 11);
        looks(50, 5, 5);
        looks(59, 14, 5);
        looks(60, 0, 0);
        looks(69, 9, 9);
        Script.about("promise 3: SIGHT now", "person(59, -1); person(18, -1); personIs(0, 5) = 14; years(1); personIs(0, 5) = 5; marries(0, 1)",
            "personIs(1, 5) = 3; parts(1); personIs(1, 5) = 2; text(1, 'c'); count(2) = 85; personIs(1, 5) = 8; trade(0, 99); personIs(1, 5) = 9");
    }

    private static void looksOfNear() {
        String star = "person(10, -1); person(0, 0); person(0, 0); person(0, 0); person(0, 0); person(0, 0); person(0, 0); person(0, 0)";
        Script.about("Term 1: an HEIRESS near to nobody, to one, to all seven", "person(10, -1); personIs(0, 5) = 2; person(10, 0)",
            "personIs(0, 5) = 3; personIs(1, 5) = 3");
        Script.of(star, "personIs(0, 5) = 9; marries(0, 7) = 7; personIs(0, 5) = 9; become(1, 10); personIs(1, 5) = 3");
        Script.about("Term 1: a GOATHERD near to all seven, m of 9", star, "become(0, 49); personIs(0, 5) = 18; become(1, 49); personIs(1, 5) = 12");
        Script.about("Term 2: SIGHT is held within 0 .. 40", star, "become(0, 49); text(1, 'e+22'); personIs(0, 5) = 40; text(1, 'e+23')",
            "personIs(0, 5) = 40; text(1, 'e-18'); personIs(0, 5) = 0; text(1, 'e-19'); personIs(0, 5) = 0; text(1, 'e-17'); personIs(0, 5) = 1");
    }
}
