// Promises 21 to 28 and Term 3: each boundary case that a sentence names, on the bound and one beyond it.
public final class ThoughtBoundsTest {
    private static final String TWO = "person(0, -1); person(0, -1); ";
    private static final String LINE =
        "person(0, -1); person(0, 0); person(0, 1); person(0, 2); person(0, 3); person(0, 4); person(0, 5); person(0, 6); ";
    private static final String APART = "person(0, -1); ".repeat(8);
    // 1 of CLOTH more each YEAR, and all is seen from 160 on.
    private static final String SLOW = TWO + "text(0, '1'); text(1, 'c>15'); trade(1, 2); ";

    public static void main(String[] args) {
        then();
        beyondTheLastYear();
        soonest();
        matchNone();
        matchFewer();
        matchOfSeveral();
        orderFor();
        orderForNow();
        seers();
        witnesses();
        oddsOfFew();
        odds();
        fitsNumbers();
        fitsParents();
        onlyThought();
        Due.close();
    }

    private static void then() {
        Script.about("promise 21: n of 0 .. 60", SLOW, "trade(0, 101); then(0, 0) = 0; then(0, 59) = 0; then(0, 60) = 2; then(0, 61) = BEYOND",
            "then(0, -1) = BEYOND; then(0, MIN) = BEYOND; then(0, MAX) = BEYOND; trade(0, 102); then(0, 58) = 0; then(0, 59) = 2; told(1) = 4");
        Script.about("promise 21: one of PEOPLE", SLOW, "then(1, 0) = 0; then(2, 0) = BEYOND; then(-1, 0) = BEYOND; then(MAX, 0) = BEYOND; then(1, 60) = 0");
        Script.about("promise 21: 0 YEARS on is now", SLOW, "fill(0, 8, 1, 3); seenAll(0) = 2; then(0, 0) = 1; then(1, 0) = 3; then(1, 60) = 3",
            "trade(0, 160); then(0, 0) = 1; then(0, 1) = 3");
        Script.about("promise 21: all eight", APART, "fill(0, 16, 255); seenAll(0) = 1; then(0, 0) = 255; then(0, 60) = 255");
    }

    private static void beyondTheLastYear() {
        Script.about("Term 3: YEAR beyond 9999, too: y", TWO, "text(0, '9'); text(1, '(y=0)*9'); year(9999); soonest(0, 1) = 2; then(0, 1) = 0; then(0, 2) = 2",
            "count(1) = 9999; years(1) = STATE; year(9993); soonest(0, 1) = 8");
        Script.about("Term 3: YEAR beyond 9999, too: an even one", TWO, "become(0, 54); text(0, '9'); year(9999); soonest(0, 1) = 2; become(0, 53)",
            "soonest(0, 1) = 24; become(0, 55); text(0, '10'); soonest(0, 1) = 2");
        Script places = Script.about("Term 3: YEAR beyond 9999, too: places", LINE, "year(9999)");
        for (int place = 0; place < 6; place++) {
            places.asks("meets(" + place + ", " + place + ", " + (place + 1) + ")");
        }
        places.asks("soonest(3, 4) = 1; soonest(4, 5) = 2; soonest(5, 6) = 3; soonest(0, 1) = 4; soonest(1, 2) = 5; soonest(2, 3) = 6; then(2, 5) = 0");
        places.asks("then(2, 6) = 8; orderFor(7, 40) = 0; orderFor(3, 5) = 0; orderFor(3, 6) = NONE; count(1) = 9999");
    }

    private static void soonest() {
        Script.about("Term 3: behind 60 YEARS, and not behind 61", SLOW, "trade(0, 101); soonest(0, 1) = 60; trade(0, 100); soonest(0, 1) = NONE",
            "trade(0, 102); soonest(0, 1) = 59; told(2) = 1");
        Script.about("Term 3: behind 0, if it has now, and behind 1", SLOW, "trade(0, 160); soonest(0, 1) = 1; years(1) = 1; soonest(0, 1) = 0",
            "trade(0, 159); soonest(0, 1) = 0; seed(1); trade(0, 0); soonest(0, 1) = 0");
        Script.about("Term 3: or itself", SLOW, "soonest(0, 0) = NONE; fill(0, 8, 1); seenAll(0); soonest(0, 0) = 0; soonest(1, 1) = NONE; soonest(1, 0) = NONE");
        Script.about("promise 22: BEYOND", SLOW, "soonest(2, 0) = BEYOND; soonest(0, 2) = BEYOND; soonest(-1, 0) = BEYOND; soonest(0, -1) = BEYOND",
            "soonest(MIN, MAX) = BEYOND; told(1) = 5; told(2) = 0");
        Script.about("Term 3: of the first time", TWO, "text(0, '9'); text(1, '(y=3)*9'); soonest(0, 1) = 4; year(3); soonest(0, 1) = 1; year(4); soonest(0, 1) = 8");
    }

    private static void matchNone() {
        Script.about("promise 23: what 0 or 1, ahead of NONE", APART, "match(0, 0, 2) = BEYOND; match(0, 0, -1) = BEYOND; match(0, 8, 0) = BEYOND",
            "match(8, 0, 1) = BEYOND; match(-1, 0, 0) = BEYOND; match(0, -1, 0) = BEYOND; match(0, 1, MAX) = BEYOND; told(2) = 0; told(1) = 7");
        Script.about("promise 23: NONE: one and the same", APART, "match(0, 0, 0) = NONE; match(7, 7, 1) = NONE");
        Script.about("promise 23: NONE: one STEP is the fewest", LINE, "match(0, 1, 0) = NONE; match(1, 0, 1) = NONE; marries(3, 6); match(6, 3, 1) = NONE");
        Script.about("promise 23: NONE: all have a SPOUSE", APART, "marries(0, 1); marries(2, 3); marries(4, 5); marries(6, 7); match(0, 7, 0) = NONE",
            "match(0, 2, 1) = NONE; parts(3); match(0, 7, 1) = NONE; match(2, 3, 0) = 23; parts(4); match(2, 5, 0) = 25; match(4, 5, 0) = 45");
        Script.about("promise 23: NONE: but one have a SPOUSE", "person(0, -1); person(0, -1); person(0, -1); marries(0, 2); match(0, 1, 0) = NONE",
            "match(2, 0, 0) = NONE");
        Script.about("promise 23: NONE: two, one of PEOPLE alone", "person(0, -1); match(0, 0, 0) = NONE; match(0, 1, 0) = BEYOND");
        Script.about("promise 23: NONE: as few are not fewer", "person(0, -1); person(0, 0); person(0, 0); person(0, 2); marries(2, 3); match(1, 2, 0) = NONE",
            "parts(2); match(1, 2, 0) = 12; match(1, 2, 1) = 1");
    }

    private static void matchFewer() {
        Script.about("Term 3: two near to nobody, 40 as it is", APART, "match(7, 6, 0) = 67; match(7, 6, 1) = 1; match(0, 1, 0) = 1; match(1, 0, 1) = 1");
        Script.about("Term 3: the lesser number, and the greater", LINE, "match(7, 0, 0) = 7; match(0, 7, 0) = 7; match(7, 0, 1) = 1; match(5, 2, 0) = 25");
        Script.about("Term 3: 2 as it is", LINE, "match(0, 2, 0) = 2; match(0, 2, 1) = 1");
        Script.about("Term 3: one of the two has a SPOUSE", LINE, "marries(0, 1); match(0, 7, 0) = 27; match(0, 7, 1) = 3; match(1, 7, 0) = 27; match(1, 7, 1) = 2");
        Script.about("Term 3: by 0 and 1, the first of all marriages", "person(0, -1); person(0, -1); person(0, 1); person(0, -1); marries(2, 3); match(0, 2, 0) = 1",
            "match(0, 2, 1) = 2; match(0, 3, 0) = 1; match(0, 3, 1) = 3; match(0, 1, 0) = 1; match(0, 1, 1) = 1");
        Script.about("Term 3: one fewer than as it is", "person(0, -1); person(0, 0); person(0, 1); person(0, 2); person(0, 3); person(0, -1); marries(0, 5); match(0, 3, 1) = 2",
            "match(0, 3, 0) = 13; marries(3, 4); match(0, 3, 1) = NONE; match(5, 3, 1) = NONE; match(5, 2, 1) = NONE; parts(3); match(5, 3, 1) = 3; match(5, 3, 0) = 13; match(0, 3, 1) = 2; match(0, 3, 0) = 13");
        Script.about("Term 3: one is near to nobody and has a SPOUSE that is so, too", APART, "marries(0, 1); match(0, 7, 0) = NONE; descends(2, 0)",
            "match(0, 7, 0) = 27; match(0, 7, 1) = 2; match(1, 7, 1) = 3");
    }

    private static void matchOfSeveral() {
        String twice = "person(0, -1); person(0, 0); person(0, 1); person(0, -1); person(0, 3); person(0, 4); person(0, -1); person(0, -1); "
            + "marries(1, 6); marries(4, 7); ";
        Script.about("Term 3: of several the first, by the lesser number, then by the greater", twice, "match(1, 4, 1) = 3; match(1, 4, 0) = 3; match(4, 1, 0) = 3",
            "parts(7); marries(7, 3); match(1, 4, 1) = 2; match(1, 4, 0) = 4");
        Script.of(twice, "parts(6); marries(6, 0); match(1, 4, 0) = 13; match(1, 4, 1) = 2; match(0, 4, 1) = 3; match(0, 4, 0) = 13");
        Script.of(twice, "descends(5, -1); match(1, 4, 0) = 3; descends(3, -1); descends(4, -1); descends(5, 4); match(1, 4, 0) = 5; match(1, 4, 1) = 3");
        Script.about("Term 3: the lesser number counts first, though another's greater is less", "person(0, -1); person(0, 0); person(0, -1); person(0, 2); person(0, 0)",
            "person(0, 2); marries(0, 1); marries(2, 3); match(0, 2, 0) = 45; match(0, 2, 1) = 3");
    }

    private static void orderFor() {
        String nearly = TWO + "text(1, '39'); trade(0, 40); ";
        Script.about("promise 24: n of 0 .. 40", nearly, "orderFor(1, 0) = 0; orderFor(1, 40) = 40; orderFor(1, 41) = BEYOND; orderFor(1, -1) = BEYOND",
            "orderFor(1, MAX) = BEYOND; orderFor(1, MIN) = BEYOND; orderFor(2, 0) = BEYOND; orderFor(-1, 0) = BEYOND; told(1) = 6; told(2) = 0");
        Script.about("Term 3: ORDER 0, the least", nearly, "orderFor(1, 1) = 0; orderFor(0, 40) = 0");
        Script.about("Term 3: ORDER 40, the greatest", nearly, "orderFor(1, 2) = 40; orderFor(1, 3) = 40; text(1, '38'); orderFor(1, 2) = 39; text(1, '37')",
            "orderFor(1, 2) = 38; text(1, '0'); orderFor(1, 2) = 1; trade(0, 41); orderFor(1, 2) = 0; orderFor(1, 3) = 1");
        Script.about("promise 24: NONE: not by 40", TWO, "text(1, '40'); orderFor(1, 1) = NONE; orderFor(1, 40) = NONE; orderFor(1, 0) = 0; text(1, '39'); trade(0, 39)",
            "orderFor(1, 1) = NONE; orderFor(1, 0) = 0; orderFor(1, 41) = BEYOND; told(2) = 3");
    }

    private static void orderForNow() {
        Script.about("Term 3: those who have SEEN it now", TWO, "trade(0, 0); orderFor(1, 1) = NONE; years(1) = 1; orderFor(1, 1) = 0; orderFor(1, 40) = 0",
            "fill(0, 8, 0); seenAll(0); trade(0, 0); orderFor(1, 1) = NONE");
        Script.about("Term 3: just those, though others are seen", LINE, "meets(0, 2, 3); orderFor(3, 1) = NONE; orderFor(1, 1) = 0; orderFor(2, 1) = 0; orderFor(1, 2) = NONE");
        Script.about("Term 3: the ORDER that is doesn't matter, and stays", TWO, "text(1, '39'); trade(0, 40); trade(1, 0); orderFor(1, 2) = 40; count(3) = 0; trade(1, 40)",
            "orderFor(1, 2) = 40; count(3) = 40; count(2) = 40");
        Script.about("Term 3: a greater ORDER by which it is seen, behind a lesser by which not", TWO, "text(1, 'c=3'); text(0, '1'); trade(0, 0); orderFor(1, 2) = NONE",
            "trade(0, 10); orderFor(1, 2) = 0; trade(0, 20); orderFor(1, 2) = 0; trade(0, 21); orderFor(1, 2) = 0; trade(0, 31); orderFor(1, 2) = NONE",
            "trade(0, 40); orderFor(1, 2) = 1; trade(0, 39); orderFor(1, 1) = NONE; trade(0, 40); orderFor(1, 3) = 1");
    }

    private static void seers() {
        Script.about("promise 25: as a set: nobody, itself, all", APART, "seers(0) = 0; fill(0, 16, 1, 0, 4, 0, 0, 0, 0, 128); seenAll(0) = 8; seers(0) = 1; seers(2) = 4",
            "seers(7) = 128; seers(1) = 0; fill(0, 16, 129, 129, 129, 129, 129, 129, 129, 129); seenAll(0) = 8; seers(0) = 255; seers(7) = 255; seers(6) = 0");
        Script.about("promise 25: BEYOND", TWO, "seers(2) = BEYOND; seers(-1) = BEYOND; seers(MIN) = BEYOND; seers(MAX) = BEYOND; seers(31) = BEYOND; seers(32) = BEYOND");
    }

    private static void witnesses() {
        Script.about("promise 26: the empty set: nobody is wanted", APART, "witnesses(0) = 0; fill(0, 16, 255); seenAll(0); witnesses(0) = 0");
        Script.about("promise 26: a set of PEOPLE, up to all eight", APART, "witnesses(255) = NONE; witnesses(256) = BEYOND; witnesses(-1) = BEYOND; witnesses(MIN) = BEYOND",
            "witnesses(MAX) = BEYOND; witnesses(1) = NONE; witnesses(128) = NONE; told(2) = 3; told(1) = 4");
        Script.about("promise 26: a set of PEOPLE, if they are two, one, nobody", TWO, "witnesses(3) = NONE; witnesses(4) = BEYOND");
        Script.of("person(0, -1); witnesses(1) = NONE; witnesses(2) = BEYOND");
        Script.of("witnesses(0) = 0; witnesses(1) = BEYOND");
        Script.about("Term 3: all eight are needed", APART, "fill(0, 16, 2, 4, 8, 16, 32, 64, 128, 1); seenAll(0) = 8; witnesses(255) = 255; witnesses(127) = 191",
            "witnesses(1) = 128; witnesses(128) = 64");
        Script.about("Term 3: all but one have been SEEN", APART, "fill(0, 16, 127, 127, 127, 127, 127, 127, 127, 127); seenAll(0); witnesses(127) = 1; witnesses(255) = NONE",
            "witnesses(128) = NONE; witnesses(64) = 1");
        Script.about("Term 3: the fewest, though a lesser set would do", APART, "fill(0, 16, 1, 2, 4, 0, 0, 0, 0, 7); seenAll(0); witnesses(7) = 128; witnesses(3) = 128; witnesses(2) = 2");
        Script.about("Term 3: of several sets the least", APART, "fill(0, 16, 3, 12, 3, 12, 15, 15, 0, 15); seenAll(0); witnesses(15) = 16; witnesses(3) = 1; witnesses(12) = 2");
        Script.of(APART, "fill(0, 16, 5, 10, 3, 12, 1, 2, 4, 8); seenAll(0); witnesses(15) = 3; witnesses(7) = 3; witnesses(6) = 3; witnesses(5) = 1; witnesses(9) = 3; witnesses(13) = 3; witnesses(12) = 8");
    }

    private static void oddsOfFew() {
        Script.about("promise 27: nobody else", "person(0, -1); odds(0, 0) = STATE; odds(0, 1) = STATE; odds(0, 2) = BEYOND; odds(0, -1) = BEYOND; odds(1, 0) = BEYOND",
            "odds(-1, 0) = BEYOND; told(3) = 2; told(1) = 4");
        Script.about("promise 27: one other", "person(0, -1); person(0, 0); odds(0, 0) = 1; odds(0, 1) = 1; descends(1, -1); odds(0, 0) = 0; odds(0, 1) = 1; odds(1, 0) = 0",
            "odds(1, 1) = 1");
        Script.about("promise 27: part 0 or 1", TWO, "odds(0, 2) = BEYOND; odds(0, -1) = BEYOND; odds(0, MIN) = BEYOND; odds(0, MAX) = BEYOND; odds(2, 0) = BEYOND");
        Script.about("Term 3: 0 is 0 by 1", APART, "odds(0, 0) = 0; odds(0, 1) = 1; odds(7, 0) = 0; odds(7, 1) = 1");
        Script.about("Term 3: all is 1 by 1", APART, "text(0, '2'); odds(0, 0) = 1; odds(0, 1) = 1; become(0, 30); odds(0, 0) = 0; odds(0, 1) = 1");
    }

    private static void odds() {
        Script.about("Term 3: as many VEILS as its SIGHT, and one more", LINE, "odds(0, 0) = 2; odds(0, 1) = 7; become(0, 61); odds(0, 0) = 1; odds(0, 1) = 7; become(0, 60)",
            "odds(0, 0) = 0; odds(0, 1) = 1; become(0, 66); odds(0, 0) = 6; odds(0, 1) = 7; become(0, 67); odds(0, 0) = 1; odds(0, 1) = 1");
        Script.about("Term 3: in lowest terms", "person(0, -1); person(0, 0); person(0, 1); person(0, 2); person(0, 3); person(0, 4); person(0, 5); become(0, 60)",
            "odds(0, 0) = 0; odds(0, 1) = 1; become(0, 61); odds(0, 0) = 1; odds(0, 1) = 6; become(0, 62); odds(0, 0) = 1; odds(0, 1) = 3; become(0, 63)",
            "odds(0, 0) = 1; odds(0, 1) = 2; become(0, 64); odds(0, 0) = 2; odds(0, 1) = 3; become(0, 65); odds(0, 0) = 5; odds(0, 1) = 6; become(0, 66)",
            "odds(0, 0) = 1; odds(0, 1) = 1");
        Script.about("Term 3: others' VEILS for it, not its own for them", TWO, "become(0, 69); become(1, 69); descends(1, 0); odds(0, 0) = 1; become(0, 60); odds(0, 0) = 0; odds(1, 0) = 1");
        Script.about("Term 3: itself is no other one", TWO, "text(0, 's'); text(1, '0'); odds(0, 0) = 0; odds(0, 1) = 1");
        Script.about("Term 3: now", TWO, "text(0, 'y'); odds(0, 0) = 1; year(2); odds(0, 0) = 1; year(3); odds(0, 0) = 0; year(8); odds(0, 0) = 1");
    }

    private static void fitsNumbers() {
        String three = "person(0, -1); person(0, 0); person(0, -1); ";
        Script.about("Term 3: as many numbers as PEOPLE, and one more", three, "fill(0, 8, 1, 2, 0); fits(0, 2, 0) = 1; fits(0, 2, 1) = 1; fill(0, 8, 1, 2, 0, 0); fits(0, 2, 0) = 0",
            "fits(0, 2, 1) = 0; fill(0, 8, 1, 2, 0, 40); fits(0, 2, 0) = 0; person(0, -1); fits(0, 2, 0) = 1; sheet(0, 8, 24); fits(0, 2, 0) = 0");
        Script.about("Term 3: without numbers all may be so", three, "sheet(0, 8, 0); fits(0, 2, 0) = 3; fits(0, 2, 1) = 2; fits(0, 1, 0) = 1; fits(0, 1, 1) = 1; fits(0, 0, 0) = 0",
            "fits(0, 0, 1) = 0");
        Script.of(APART, "sheet(0, 32, 0); fits(0, 7, 0) = 127; fits(0, 7, 1) = 7; fits(0, 0, 0) = 0");
        Script.about("promise 28: a missing SHEET is asked behind BEYOND", three, "fits(0, 2, 0) = NONE; fits(3, 0, 1) = NONE; fits(0, 3, 0) = BEYOND; fits(0, -1, 0) = BEYOND",
            "fits(0, 2, 2) = BEYOND; fits(0, 2, -1) = BEYOND; fits(4, 2, 0) = BEYOND; fits(-1, 2, 0) = BEYOND; told(2) = 2; told(1) = 6; sheet(0, 8, 0); fits(0, 2, 0) = 3",
            "sheet(0, 0, 0); fits(0, 2, 0) = NONE");
        Script.about("Term 3: numbers of 8, 16, 32 bits", three, "fill(0, 8, 257, 2); fits(0, 2, 0) = 1; fill(0, 16, 257, 2); fits(0, 2, 0) = 0; fill(0, 16, 65537, 2); fits(0, 2, 0) = 1",
            "fill(0, 32, 65537, 2); fits(0, 2, 0) = 0; fill(0, 32, 1, 2); fits(0, 2, 0) = 1; fill(0, 8, -1); fits(0, 2, 0) = 0; fill(0, 32, MIN); fits(0, 2, 0) = 0");
    }

    private static void fitsParents() {
        String three = "person(0, -1); person(0, 0); person(0, -1); ";
        Script.about("Term 3: of which PARENT: nobody is none", three, "fill(0, 8, 40, 40, 0); fits(0, 2, 0) = 0; fits(0, 2, 1) = 0; personIs(2, 2) = -1; steps(2, 0) = 40");
        Script.about("Term 3: of a lesser number alone", LINE, "descends(3, -1); fill(0, 8, 40, 40, 40, 0, 1); fits(0, 3, 0) = 0; fill(0, 8, 3, 2, 1); fits(0, 3, 0) = 4; fill(0, 8, 1, 2, 3)",
            "fits(0, 3, 0) = 1; fill(0, 8, 2, 1, 2, 0, 1, 2, 3, 4); fits(0, 3, 0) = 2; fits(0, 3, 1) = 1; personIs(3, 2) = -1");
        Script.about("Term 3: the last of eight", LINE, "fill(0, 8, 1, 2, 3, 4, 5, 6, 7, 0); fits(0, 7, 0) = 1; fill(0, 8, 7, 6, 5, 4, 3, 2, 1, 0); fits(0, 7, 0) = 64; personIs(7, 2) = 6");
        Script.about("Term 3: for itself, 0 STEPS", three, "become(2, 60); fill(0, 8, 2, 3, 1); fits(0, 2, 0) = 1; fill(0, 8, 2, 3, 0); fits(0, 2, 0) = 0; fill(0, 8, 3, 2, 1); fits(0, 2, 0) = 2");
        Script.about("Term 3: VEILS held at 40", three, "become(2, 30); text(0, 'v*40'); fill(0, 8, 40, 40, 0); fits(0, 2, 0) = 3; fits(0, 2, 1) = 2; fill(0, 8, 80, 40, 0); fits(0, 2, 0) = 0");
        Script.about("Term 3: all else as it is: now", three, "text(0, 'y'); fill(0, 8, 0, 0, 0); fits(0, 2, 0) = 3; year(1); fits(0, 2, 0) = 0; year(8); fits(0, 2, 1) = 2");
    }

    private static void onlyThought() {
        Due.about("Term 3: all this is only thought");
        String scene = LINE + "become(2, 59); marries(0, 7); text(0, 'v+1'); text(1, 'e+y'); meets(2, 3, 1); trade(1, 3); fill(0, 8, 1, 2, 3); years(9); image(); "
            + "feed('v+s'); tell(2); tell(5); voice(2, 2, 1); year(9998); ";
        Twins.alike(scene + "then(0, 60); soonest(0, 1); soonest(3, 1); orderFor(1, 40); orderFor(6, 0)", scene);
        Twins.alike(scene + "match(2, 6, 0); match(2, 6, 1); witnesses(2); odds(3, 0); odds(3, 1); seers(1); steps(0, 5); lets(0, 5)", scene);
        Twins.alike(scene + "fits(0, 7, 0); fits(0, 7, 1); fits(0, 0, 0); judge(0); as(2, 5); personIs(2, 5); law(0, 1, 2, 3); count(8); body(0)", scene);
    }
}
