// Promises 17 to 20, and how a YEAR goes by: each boundary case that a sentence names.
public final class YearsBoundsTest {
    private static final String TWO = "person(0, -1); person(0, -1); ";
    private static final String PAIR = "person(0, -1); person(0, 0); ";
    private static final String LINE =
        "person(0, -1); person(0, 0); person(0, 1); person(0, 2); person(0, 3); person(0, 4); person(0, 5); person(0, 6); ";

    public static void main(String[] args) {
        years();
        places();
        whoMeets();
        worn();
        seenThrough();
        aheadOfThat();
        cloth();
        loose();
        draws();
        drawnMeetings();
        year();
        seed();
        Due.close();
    }

    private static void years() {
        Script.about("promise 17: n of 1 .. 60", "years(1) = 0; count(1) = 1; years(60) = 0; count(1) = 61; years(0) = BEYOND; years(61) = BEYOND",
            "years(-1) = BEYOND; years(MIN) = BEYOND; years(MAX) = BEYOND; count(1) = 61; told(1) = 5; told(3) = 0");
        Script.about("promise 17: YEAR would be 9999", "year(9939); years(60) = 0; count(1) = 9999; year(9998); years(1) = 0; count(1) = 9999");
        Script.about("promise 17: YEAR would be 10000", "year(9940); years(60) = STATE; count(1) = 9940; year(9999); years(1) = STATE; count(1) = 9999",
            "year(9998); years(2) = STATE; count(1) = 9998; told(3) = 3");
        Script.about("promise 17: BEYOND is asked ahead of STATE", "year(9999); years(61) = BEYOND; years(0) = BEYOND; years(MAX) = BEYOND; told(3) = 0");
        Script.about("promise 17: how many all have SEEN, together", LINE, "fill(0, 16, 255, 255, 255, 255, 255, 255, 255, 255); seenAll(0); years(1) = 64",
            "put(0, 0, 0); seenAll(0); years(1) = 57; years(60) = 57");
        Due.about("promise 17: n YEARS at once, or one by one");
        String scene = LINE + "become(3, 59); meets(1, 3, 5); meets(2, 6, 3); meets(3, 7, 0); meets(4, 2, 4); meets(5, 8, 1); trade(1, 3); ";
        Twins.alike(scene + "years(60)", scene + "years(1); ".repeat(60));
        Twins.alike(scene + "years(59)", scene + "years(29); years(30)");
    }

    private static void places() {
        Script all = Script.about("Term 1: the place is the rest of YEAR by 6", LINE);
        for (int place = 0; place < 6; place++) {
            all.asks("meets(" + place + ", " + place + ", " + (place + 1) + ")");
        }
        all.asks("year(5); years(1) = 1; personIs(5, 4) = 64; years(1) = 2; personIs(0, 4) = 2; year(9998); years(1) = 3; personIs(2, 4) = 8");
        all.asks("year(9999); then(3, 0) = 0; then(3, 1) = 16; then(4, 1) = 0; then(4, 2) = 32; year(1); years(1) = 4; personIs(1, 4) = 4");
        Script.about("Term 1: YEAR is 1 more", "years(1); count(1) = 1; years(6); count(1) = 7; years(60); count(1) = 67");
    }

    private static void whoMeets() {
        String all = "meets(0, %1$s); meets(1, %1$s); meets(2, %1$s); meets(3, %1$s); meets(4, %1$s); meets(5, %1$s); ";
        Script.about("Term 1: two unlike ones", TWO, String.format(all, "1, 1"), "years(6) = 0; count(2) = 130; personIs(1, 4) = 0");
        Script.about("Term 1: of PEOPLE: who looks is nobody", TWO, String.format(all, "2, 0"), "years(6) = 0; count(2) = 130; person(0, -1)",
            "trade(0, 0); years(6) = 1; personIs(2, 4) = 1");
        Script.about("Term 1: of PEOPLE: who is met is nobody", TWO, String.format(all, "0, 2"), "years(6) = 0; count(2) = 130; person(0, -1)",
            "trade(0, 0); years(6) = 1; personIs(0, 4) = 4");
        Script.about("Term 1: of PEOPLE: both are nobody", TWO, String.format(all, "7, 6"), "years(6) = 0; count(2) = 130");
        Script.about("Term 1: the one met WEARS for the one who looks", PAIR, "become(0, 30); become(1, 60); trade(1, 0); years(1) = 0; count(2) = 98");
        Script.of(PAIR, "become(0, 60); become(1, 30); trade(1, 0); years(1) = 0; count(2) = 98; become(0, 62); years(1) = 1; count(2) = 96");
        Script.about("Term 1: the one who looks is not seen by it", PAIR, "years(60) = 1; personIs(1, 4) = 0; personIs(0, 4) = 2; seers(0) = 0; seers(1) = 1");
    }

    private static void worn() {
        Script.about("Term 1: no more than there is CLOTH: 41, 40, 39, 1, 0", TWO, "trade(1, 0); trade(0, 41); years(1) = 0; count(2) = 1; trade(0, 40)",
            "years(1) = 0; count(2) = 0; trade(0, 39); years(1) = 0; count(2) = 0; trade(0, 3); years(1) = 0; count(2) = 0; trade(0, 2); years(1) = 1",
            "count(2) = 0");
        Script.about("Term 1: without CLOTH one is seen by all SIGHT", TWO, "become(0, 60); trade(0, 0); personIs(0, 5) = 0; years(1) = 1; count(2) = 5");
        Script.about("Term 1: with 1 of CLOTH not by SIGHT 0", TWO, "become(0, 60); trade(0, 1); years(1) = 0; count(2) = 5; become(0, 65); years(1) = 1");
        Script.about("Term 1: what is worn is as many as VEILS, held within 40", TWO, "become(1, 30); trade(1, 0); years(1) = 0; count(2) = 60",
            "text(0, 'v*9'); years(1) = 0; count(2) = 20; text(0, '0-1'); years(1) = 1; count(2) = 20");
    }

    private static void seenThrough() {
        Script.about("Term 1: no more than SIGHT: as many", TWO, "text(0, '7'); text(1, '7'); years(1) = 1; personIs(0, 4) = 2");
        Script.about("Term 1: no more than SIGHT: one more", TWO, "text(0, '8'); text(1, '7'); trade(1, 40); years(60) = 0; personIs(0, 4) = 0");
        Script.about("Term 1: 40 through 40", TWO, "text(1, '40'); years(1) = 1");
        Script.about("Term 1: 40 through 39", TWO, "text(1, '39'); trade(1, 40); years(60) = 0; count(2) = 100");
        Script.about("Term 1: 0 through 0", TWO, "text(0, '0'); text(1, '0'); years(1) = 1; count(2) = 105");
        Script.about("Term 1: the SIGHT of the one who looks", PAIR, "become(0, 60); become(1, 69); text(0, '2'); years(1) = 0; become(0, 62); become(1, 60)",
            "years(1) = 1");
        Script.about("Term 1: among those it has SEEN from then on", TWO, "trade(0, 0); years(1) = 1; trade(0, 999); years(1) = 1; personIs(0, 4) = 2",
            "trade(0, 0); years(1) = 1; meets(3, 1, 0); trade(0, 0); years(1) = 2; personIs(1, 4) = 1; personIs(0, 4) = 2");
    }

    private static void aheadOfThat() {
        Script.about("Term 1: SIGHT as all is ahead of that: CLOTH not yet less", TWO, "text(1, 'c'); text(0, '20'); trade(0, 200); years(1) = 1",
            "count(2) = 185; trade(0, 199)");
        Script.of(TWO, "text(1, 'c'); text(0, '20'); trade(0, 199); trade(1, 40); years(1) = 0; count(2) = 219; years(1) = 1");
        Script.about("Term 1: VEILS and SIGHT of the YEAR that goes by", TWO, "text(0, '(y=0)*9'); text(1, '0'); years(1) = 0; years(1) = 1");
        Script.of(TWO, "text(0, '9'); text(1, '(y=1)*9'); years(1) = 0; years(1) = 1");
        Script.about("Term 1: a RING that looks in an even YEAR and an odd one", TWO, "become(0, 54); text(0, '9'); year(1); years(1) = 0; years(1) = 1");
    }

    private static void cloth() {
        Script.about("Term 1: 999 at most: 998 and 1, 999 and 1, 999 and 40", "trade(0, 998); trade(1, 1); years(1); count(2) = 999; years(1); count(2) = 999",
            "trade(1, 40); years(1); count(2) = 999; trade(0, 959); years(1); count(2) = 999; trade(0, 958); years(1); count(2) = 998");
        Script.about("Term 1: less ahead of more", TWO, "trade(0, 999); trade(1, 40); years(1); count(2) = 999; trade(1, 39); years(1); count(2) = 998");
        Script.about("Term 1: ORDER 0", TWO, "trade(1, 0); trade(0, 0); years(1) = 1; count(2) = 0; years(60) = 1; count(2) = 0");
        Script.about("Term 1: so much more each YEAR", "trade(0, 0); years(60); count(2) = 300; trade(1, 40); years(17); count(2) = 980; years(1); count(2) = 999");
    }

    private static void loose() {
        Script.about("promise 18: n of 1 .. 30", "loose(1) = 0; count(1) = 1; loose(30) = 0; count(1) = 31; loose(0) = BEYOND; loose(31) = BEYOND",
            "loose(-1) = BEYOND; loose(MIN) = BEYOND; loose(MAX) = BEYOND; count(1) = 31; told(1) = 5; told(3) = 0");
        Script.about("promise 18: YEAR would be 9999", "year(9969); loose(30) = 0; count(1) = 9999; year(9998); loose(1) = 0; count(1) = 9999");
        Script.about("promise 18: YEAR would be 10000: nothing is drawn", "year(9970); loose(30) = STATE; count(8) = 1; count(1) = 9970; year(9999)",
            "loose(1) = STATE; count(8) = 1; meets(4, 0, 1) = 1; meets(3, 0, 1) = 1; told(3) = 2");
        Script.about("promise 18: BEYOND is asked ahead of STATE", "year(9999); loose(31) = BEYOND; loose(0) = BEYOND; loose(MAX) = BEYOND; told(3) = 0");
        Due.about("promise 18: n YEARS at once, or one by one");
        String scene = LINE + "become(3, 59); become(5, 33); trade(1, 3); seed(-9); image(); ";
        Twins.alike(scene + "loose(30)", scene + "loose(1); ".repeat(30));
        Twins.alike(scene + "loose(29)", scene + "loose(14); loose(15)");
    }

    private static int drawn(int z) {
        return (int) (z * 1103515245L + 12345L);
    }

    // Two draws a YEAR, and what they give is never below 0.
    private static void draws() {
        int[] seeds = {0, 1, -1, Integer.MAX_VALUE, Integer.MIN_VALUE, 77, -1000000001};
        for (int z : seeds) {
            int first = drawn(z);
            int second = drawn(first);
            long looks = ((first & 0xffffffffL) >> 8) & 7;
            long met = ((second & 0xffffffffL) >> 8) & 7;
            Script.about("Term 1: DRAWS from " + z, "seed(" + z + "); loose(1) = 0; count(8) = " + second + "; meets(0, 0, 1) = " + (looks * 10 + met));
            Script.of("seed(" + z + "); year(11); loose(1) = 0; meets(5, 0, 1) = " + (looks * 10 + met) + "; meets(0, 0, 1) = 1; meets(4, 0, 1) = 1");
        }
        Script.about("Term 1: years() draw nothing", "years(60); count(8) = 1; meets(0, 0, 1) = 1; then(0, 5) = BEYOND; count(8) = 1");
    }

    private static void drawnMeetings() {
        Script meets = Script.about("Term 1: the MEETING for this YEAR is of these", LINE, "seed(4)");
        Script loose = Script.of(LINE, "seed(4)");
        int z = 4;
        for (int year = 0; year < 30; year++) {
            int looks = drawn(z);
            z = drawn(looks);
            meets.asks("meets(" + year % 6 + ", " + (looks >>> 8) % 8 + ", " + (z >>> 8) % 8 + "); years(1)");
            loose.asks("loose(1) = " + meets.ask("count(4)") + "; count(2) = " + meets.ask("count(2)") + "; count(8) = " + z);
        }
        Script.about("Term 1: drawn ones that are nobody, or alike, are drawn all the same", "person(0, -1); seed(4); loose(30) = 0; count(1) = 30; count(2) = 250",
            "count(8) = " + z);
    }

    private static void year() {
        Script.about("promise 19: 0 .. 9999", "year(1) = 0; year(9999) = 1; year(10000) = BEYOND; year(-1) = BEYOND; year(0) = 9999; years(1); year(7) = 1",
            "year(7) = 7; told(1) = 2");
        Script.about("promise 19: nothing else becomes so", TWO, "year(60) = 0; count(2) = 100; count(3) = 5; count(4) = 0; count(8) = 1");
    }

    private static void seed() {
        Script.about("promise 20: any number", "seed(MIN) = 1; seed(MAX) = MIN; seed(0) = MAX; seed(-1000000006) = 0; count(8) = -1000000006",
            "seed(-1000000001) = -1000000006; seed(1) = -1000000001; told(1) = 0; told(6) = 0");
    }
}
