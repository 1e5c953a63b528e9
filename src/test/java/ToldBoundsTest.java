// Promises 36 to 41: each boundary case that a sentence names.
public final class ToldBoundsTest {
    private static final String TWO = "person(5, -1); person(17, 0); ";

    public static void main(String[] args) {
        image();
        restore();
        imageKeeps();
        tell();
        check();
        checkNow();
        count();
        told();
        toldAnyNumber();
        Due.close();
    }

    private static void image() {
        Script.about("promise 36: how often that was done", "image() = 1; image() = 2; restore() = 0; image() = 3; restore() = 0; restore() = 0; image() = 4");
        Script.about("promise 36: of nobody", "image() = 1; person(0, -1) = 0; restore() = 0; count(0) = 0; personIs(0, 0) = BEYOND; person(9, -1) = 0; personIs(0, 1) = 9");
        Script.about("promise 36: in place of one ahead", "year(1); image() = 1; year(2); image() = 2; year(3); restore() = 2; year(4); restore() = 2; count(1) = 2");
        Due.about("promise 36: an IMAGE changes nothing, nor does it to go back to it at once");
        String scene = TWO + "marries(0, 1); fill(0, 8, 1, 2); text(0, 'v+1'); feed('v'); tell(2); years(5); voice(1, 2, 3); seed(5); image(); ";
        Twins.alike(scene + "restore()", scene);
        Twins.alike(scene + "restore(); restore()", scene);
    }

    private static void restore() {
        Script.about("promise 37: there is none", "restore() = NONE; told(2) = 1; year(7); restore() = NONE; count(1) = 7; image() = 1; restore() = 7; told(2) = 2");
        Script.about("promise 37: YEAR, 0 and 9999", "image(); year(9999); restore() = 0; year(9999); image(); year(0); restore() = 9999; count(1) = 9999; years(1) = STATE");
        Script.about("promise 37: the IMAGE stays, whatever follows", TWO, "image(); restore() = 0; person(0, 0); text(0, '7'); meets(0, 1, 0); years(3); restore() = 0; count(0) = 2; untell(0) = 0",
            "meets(0, 0, 1) = 1; count(4) = 0; count(2) = 100; person(69, 1) = 2; personIs(2, 0) = 6; personIs(2, 3) = -1; personIs(2, 4) = 0; restore() = 0; count(0) = 2");
    }

    private static void imageKeeps() {
        Script.about("promise 36: not SHEETS", TWO, "fill(0, 8, -1, 0); image(); put(0, 0, 5); sheet(1, 16, 24); restore(); judge(0) = 0; put(1, 23, 1) = 1; put(2, 0, 1) = NONE");
        Script.about("promise 36: not THE TRACE", TWO, "voice(0, 0, 1); image(); voice(0, 2, 1); restore(); count(7) = 3; body(0) = 12; body(2) = 10");
        Script.about("promise 36: not what told() tells", TWO, "told(9); image(); told(9); told(9); restore(); told(1) = 3; parts(0); restore(); told(2) = 1");
        Script.about("promise 36: THE TAPE", "feed('v+'); image(); feed('s'); text(0) = 1; restore(); count(5) = 2; feed('y'); text(0) = 1; law(0, 1, 2, 3) = 4; feed('*'); restore(); text(0) = -12");
        Script.about("promise 36: the numbers that wait", TWO, "tell(2); image(); tell(9); check() = 2; restore(); count(6) = 1; check() = 0; restore(); tell(3) = 2; tell(4) = 3; check() = 3; count(6) = 0",
            "restore(); count(6) = 1");
        Script.about("promise 36: TEXTS, and that there are none", "text(0, '7'); image(); text(0, '8'); text(1, '9'); restore(); law(0, 0, 0, 0) = 7; law(1, 5, 0, 0) = 5; untell(1) = 0; untell(0) = 1; image()",
            "text(0, '6'); restore(); untell(0) = 0");
        Script.about("promise 36: z, CLOTH, ORDER, MEETINGS", "seed(9); trade(0, 1); trade(1, 2); meets(5, 3, 4); image(); seed(8); trade(0, 3); trade(1, 4); meets(5, 6, 7); loose(6); restore(); count(8) = 9; count(2) = 1",
            "count(3) = 2; meets(5, 0, 0) = 34; meets(0, 0, 0) = 1");
        Script.about("promise 36: KINDS, m, PARENTS, SPOUSES, SEEN, STEPS", TWO, "person(0, -1); marries(1, 2); fill(0, 8, 3, 0, 4); seenAll(0); image(); become(0, 69); descends(1, -1); parts(2); marries(0, 2); sheet(0, 8, 3)",
            "seenAll(0); restore(); personIs(0, 0) = 0; personIs(0, 1) = 5; personIs(1, 2) = 0; personIs(1, 3) = 2; personIs(2, 3) = 1; personIs(0, 3) = -1; personIs(0, 4) = 3; personIs(2, 4) = 4",
            "steps(0, 2) = 2; steps(1, 2) = 1; personIs(1, 5) = 4");
    }

    private static void tell() {
        Script full = Script.about("promise 38: 24 wait");
        for (int i = 1; i <= 24; i++) {
            full.asks("tell(" + i + ") = " + i);
        }
        full.asks("tell(25) = FULL; count(6) = 24; tell(MIN) = FULL; told(4) = 2; check() = 1; count(6) = 0; tell(1) = 1");
        Script.about("promise 38: any number", "tell(MIN) = 1; tell(MAX) = 2; tell(0) = 3; tell(-1000000001) = 4; told(1) = 0");
    }

    private static void check() {
        Script.about("promise 39: none wait", "check() = 0; check() = 0; told(2) = 0");
        Script.about("promise 39: for which there is nobody", "tell(0); check() = 1; person(0, -1); tell(2); check() = 0; tell(2); tell(2); check() = 2; tell(2); tell(2); tell(2); check() = 2");
        Script.about("promise 39: the first that isn't so", TWO, "tell(2); tell(3); check() = 0; tell(3); tell(3); check() = 1; tell(2); tell(2); check() = 2; tell(2); tell(3); tell(0); check() = 3; tell(3); tell(2); check() = 1");
        Script.about("promise 39: none do then, so or not", TWO, "tell(2); check() = 0; count(6) = 0; tell(9); check() = 1; count(6) = 0; check() = 0; tell(2) = 1; check() = 0");
        Script.about("promise 39: all eight, and a ninth", "person(0, -1); ".repeat(8) + "tell(2); ".repeat(8) + "check() = 0; " + "tell(2); ".repeat(9) + "check() = 9; " + "tell(2); ".repeat(24) + "check() = 9");
        Script.about("promise 39: the eighth isn't so", "person(0, -1); ".repeat(8) + "tell(2); ".repeat(7) + "tell(1); check() = 8");
        Script.about("promise 39: no ERROR", "tell(MIN); check() = 1; told(1) = 0; told(2) = 0; told(3) = 0; told(4) = 0; told(5) = 0; told(6) = 0");
    }

    private static void checkNow() {
        Script.about("promise 39: SIGHTS now, not as it was told", "person(59, -1); tell(14); year(1); check() = 1; tell(14); year(2); check() = 0; tell(14); text(1, 'e-14'); check() = 1; tell(0); check() = 0");
        Script.about("promise 39: SIGHTS held within 0 .. 40", "person(0, -1); text(1, 'e+99'); tell(101); check() = 1; tell(40); check() = 0; text(1, '0-1'); tell(-1); check() = 1; tell(0); check() = 0");
    }

    private static void count() {
        Script.about("promise 40: what is 0 .. 8", "count(-1) = BEYOND; count(9) = BEYOND; count(MIN) = BEYOND; count(MAX) = BEYOND; count(0) = 0; count(8) = 1; told(1) = 4");
        Script.about("promise 40: each of its own", TWO, "year(3); trade(0, 4); trade(1, 5); fill(0, 8, 3, 3); seenAll(0); feed('vvvvv'); tell(0); tell(0); voice(1, 1, 0); seed(8)",
            "count(0) = 2; count(1) = 3; count(2) = 4; count(3) = 5; count(4) = 4; count(5) = 5; count(6) = 2; count(7) = 3; count(8) = 8");
        Script.about("promise 40: z is any number", "seed(-1000000003); count(8) = -1000000003; told(3) = 0; seed(MIN); count(8) = MIN; seed(MAX); count(8) = MAX");
        Script.about("promise 40: the most of each", "person(0, -1); ".repeat(8) + "fill(0, 16, 255, 255, 255, 255, 255, 255, 255, 255); seenAll(0); year(9999); trade(0, 999); trade(1, 40); " + "feed('v+v+v+'); ".repeat(10) + "tell(0); ".repeat(24),
            "count(0) = 8; count(1) = 9999; count(2) = 999; count(3) = 40; count(4) = 64; count(5) = 60; count(6) = 24");
    }

    private static void told() {
        Script.about("promise 41: k of 1 .. 6, another is BEYOND, counted, too", "told(0) = BEYOND; told(1) = 1; told(7) = BEYOND; told(1) = 2; told(-1) = BEYOND; told(MIN) = BEYOND; told(MAX) = BEYOND; told(1) = 5",
            "told(2) = 0; told(3) = 0; told(4) = 0; told(5) = 0; told(6) = 0; told(1) = 5");
        Script.about("promise 41: each ERROR of its own", "count(9); person(0, -1); parts(0); parts(0); odds(0, 0); odds(0, 0); odds(0, 0); as(0, 1); as(0, 2); as(0, 3); as(0, 4); as(0, 5); voice(0, 3, 1); "
            + "voice(0, 3, 2); voice(0, 3, 3); voice(0, 3, 4); voice(0, 3, 5); voice(0, 3, 6)", "tell(0); ".repeat(28),
            "told(1) = 1; told(2) = 2; told(3) = 3; told(4) = 4; told(5) = 5; told(6) = 6");
        Script.about("promise 41: what is no ERROR is not counted", "text(0) = -10; text(0, ')') = -10; descends(0, 0) = BEYOND; person(0, -1); descends(0, -1) = -1; personIs(0, 2) = -1; told(1) = 1; told(2) = 0");
    }

    private static void toldAnyNumber() {
        Script all = Script.about("promise 41: any number that looks like an ERROR is none", "person(1, -1)");
        for (int k = 1; k <= 6; k++) {
            int error = -1000000000 - k;
            all.asks("seed(" + error + "); count(8) = " + error + "; seed(0) = " + error + "; voice(0, 3, " + error + ") = " + error + "; told(" + k + ") = 0");
        }
    }
}
