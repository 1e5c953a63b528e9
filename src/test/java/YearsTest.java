// Promises 17 to 20: years.
public final class YearsTest {
    public static void main(String[] args) {
        years();
        aYearGoesBy();
        loose();
        year();
        seed();
        Due.close();
    }

    private static void years() {
        Due.about("promise 17");
        VeilSteps x = Due.line(4);
        Due.is("years(0)", x.years(0), Due.BEYOND);
        Due.is("years(61)", x.years(61), Due.BEYOND);
        Due.is("years(-1)", x.years(-1), Due.BEYOND);
        for (int place = 0; place < 6; place++) {
            x.meets(place, place % 4, (place + 1) % 4);
        }
        Due.is("years(1)", x.years(1), 1);
        Due.is("years(1)", x.years(1), 2);
        Due.is("years(1)", x.years(1), 3);
        Due.is("3 lets down 3 for 0", x.lets(0, 3), 3);
        Due.is("years(1), 3 looks at 0 through 2", x.years(1), 3);
        Due.is("years(60)", x.years(60), 3);
        Due.is("YEAR", x.count(1), 64);
        x.year(9940);
        Due.is("years(60)", x.years(60), Due.STATE);
        Due.is("years(61)", x.years(61), Due.BEYOND);
        Due.is("years(59)", x.years(59), 3);
        Due.is("YEAR", x.count(1), 9999);
        Due.is("years(1)", x.years(1), Due.STATE);
        Due.is("YEAR", x.count(1), 9999);
        Due.is("told(3)", x.told(3), 2);
        Due.is("nobody", new VeilSteps().years(60), 0);
    }

    private static void aYearGoesBy() {
        Due.about("promise 17, a YEAR");
        VeilSteps x = Due.women(2);
        x.trade(0, 45);
        Due.is("40 are too many", x.years(1), 0);
        Due.is("45 less 40, and 5", x.count(2), 10);
        Due.is("there is CLOTH for 10", x.years(1), 0);
        Due.is("10 less 10, and 5", x.count(2), 5);
        x.trade(1, 2);
        Due.is("there is CLOTH for 5", x.years(1), 0);
        Due.is("5 less 5, and 2", x.count(2), 2);
        Due.is("there is CLOTH for 2", x.years(1), 1);
        Due.is("0 has seen 1", x.personIs(0, 4), 2);
        Due.is("1 has seen nobody", x.personIs(1, 4), 0);
        Due.is("2 less 2, and 2", x.count(2), 2);
        x.trade(0, 999);
        x.trade(1, 40);
        for (int place = 0; place < 6; place++) {
            x.meets(place, 1, 1);
        }
        Due.is("like ones do not meet", x.years(6), 1);
        Due.is("999 at most", x.count(2), 999);
        for (int place = 0; place < 6; place++) {
            x.meets(place, place % 2 == 0 ? 2 : 0, place % 2 == 0 ? 0 : 2);
        }
        x.trade(0, 500);
        Due.is("nor does nobody", x.years(6), 1);
        Due.is("CLOTH is ORDER more", x.count(2), 740);
        sightIsAhead();
        wearsTheSeen();
        placesTurn();
    }

    private static void sightIsAhead() {
        VeilSteps x = Due.women(2);
        Due.tell(x, 1, "c");
        x.trade(0, 399);
        Due.is("SIGHT of 39 through 40", x.years(1), 0);
        x.trade(0, 400);
        Due.is("SIGHT of 40, as it was ahead", x.years(1), 1);
        VeilSteps y = Due.women(2);
        Due.tell(y, 0, "y=3");
        Due.tell(y, 1, "0");
        y.year(3);
        Due.is("y of the YEAR that goes by", y.years(1), 0);
        Due.is("and the next", y.years(1), 1);
    }

    private static void wearsTheSeen() {
        VeilSteps x = Due.line(2);
        x.become(0, 30);
        x.become(1, 60);
        Due.is("the one met wears, the other looks", x.lets(1, 0), 2);
        Due.is("a BALE sees 1", x.years(1), 0);
        Due.is("CLOTH", x.count(2), 103);
        x.become(1, 0);
        Due.is("a WOMAN near wears 1", x.years(1), 1);
        Due.is("CLOTH", x.count(2), 107);
    }

    private static void placesTurn() {
        VeilSteps x = Due.line(8);
        for (int place = 0; place < 6; place++) {
            x.meets(place, place, place + 1);
        }
        x.year(9);
        x.years(1);
        Due.is("YEAR 9 is of place 3", x.personIs(3, 4), 16);
        Due.is("and of no other", x.count(4), 1);
        x.years(3);
        x.meets(1, 3, 2);
        x.years(1);
        Due.is("one sees another more", x.personIs(3, 4), 16 + 4);
        Due.is("then 4, 5, 0", x.seers(1) + 10 * x.seers(5) + 1000 * x.seers(6), 1 + 160 + 32000);
    }

    private static void loose() {
        Due.about("promise 18");
        VeilSteps x = new VeilSteps();
        Due.is("loose(0)", x.loose(0), Due.BEYOND);
        Due.is("loose(31)", x.loose(31), Due.BEYOND);
        Due.is("loose(-1)", x.loose(-1), Due.BEYOND);
        Due.is("z stays", x.count(8), 1);
        x.year(9969);
        Due.is("loose(30)", x.loose(30), 0);
        Due.is("loose(1)", x.loose(1), Due.STATE);
        Due.is("loose(31)", x.loose(31), Due.BEYOND);
        Due.is("YEAR", x.count(1), 9999);
        VeilSteps y = new VeilSteps();
        y.year(9970);
        Due.is("loose(30)", y.loose(30), Due.STATE);
        Due.is("loose(29)", y.loose(29), 0);
        drawsStay();
        drawsMeet();
    }

    private static void drawsStay() {
        VeilSteps x = new VeilSteps();
        x.year(10);
        x.seed(-5);
        int z = -5;
        for (int i = 0; i < 8; i++) {
            z = z * 1103515245 + 12345;
            int looker = (z >>> 8) % 8;
            z = z * 1103515245 + 12345;
            int met = (z >>> 8) % 8;
            int place = (10 + i) % 6;
            Due.is("loose(1)", x.loose(1), 0);
            Due.is("two draws", x.count(8), z);
            Due.is("the MEETING in its place", x.meets(place, looker, met), looker * 10 + met);
        }
        VeilSteps y = new VeilSteps();
        y.loose(1);
        Due.is("place 0 is drawn", y.meets(0, 0, 0), 60);
        Due.is("place 1 is not", y.meets(1, 0, 0), 1);
    }

    private static void drawsMeet() {
        VeilSteps x = Due.line(8);
        VeilSteps y = Due.line(8);
        x.seed(99);
        int z = 99;
        for (int i = 0; i < 30; i++) {
            z = z * 1103515245 + 12345;
            int looker = (z >>> 8) % 8;
            z = z * 1103515245 + 12345;
            y.meets(i % 6, looker, (z >>> 8) % 8);
            y.years(1);
        }
        Due.is("loose(30)", x.loose(30), y.count(4));
        Due.is("CLOTH", x.count(2), y.count(2));
        Due.is("YEAR", x.count(1), 30);
        for (int i = 0; i < 8; i++) {
            Due.is("seen by " + i, x.personIs(i, 4), y.personIs(i, 4));
        }
        Due.holds("some are seen", x.count(4) > 3);
    }

    private static void year() {
        Due.about("promise 19");
        VeilSteps x = new VeilSteps();
        Due.is("year(9999)", x.year(9999), 0);
        Due.is("year(10000)", x.year(10000), Due.BEYOND);
        Due.is("year(-1)", x.year(-1), Due.BEYOND);
        Due.is("year(0)", x.year(0), 9999);
        Due.is("year(7)", x.year(7), 0);
        Due.is("count(1)", x.count(1), 7);
    }

    private static void seed() {
        Due.about("promise 20");
        VeilSteps x = new VeilSteps();
        Due.is("seed(MIN)", x.seed(Integer.MIN_VALUE), 1);
        Due.is("seed(LOW - 1)", x.seed(Due.BEYOND), Integer.MIN_VALUE);
        Due.is("seed(0), any number", x.seed(0), Due.BEYOND);
        Due.is("told(1), no ERROR", x.told(1), 0);
        Due.is("count(8)", x.count(8), 0);
    }
}
