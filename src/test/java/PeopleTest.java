// Promises 1 to 12: people.
public final class PeopleTest {
    private static final int MIN = Integer.MIN_VALUE;
    private static final int MAX = Integer.MAX_VALUE;

    public static void main(String[] args) {
        aNewObject();
        person();
        personIs();
        become();
        as();
        descends();
        marries();
        parts();
        steps();
        lets();
        meets();
        trade();
        Due.close();
    }

    private static void aNewObject() {
        Due.about("promise 1");
        VeilSteps x = new VeilSteps();
        int[] first = {0, 0, 100, 5, 0, 0, 0, 0, 1};
        for (int what = 0; what < first.length; what++) {
            Due.is("count(" + what + ")", x.count(what), first[what]);
        }
        for (int k = 1; k <= 6; k++) {
            Due.is("told(" + k + ")", x.told(k), 0);
        }
        for (int place = 0; place < 6; place++) {
            Due.is("meets(" + place + ", 1, 0)", x.meets(place, 1, 0), 1);
        }
        Due.is("untell(0)", x.untell(0), 0);
        Due.is("untell(1)", x.untell(1), 0);
        for (int sheet = 0; sheet < 4; sheet++) {
            Due.is("put(" + sheet + ", 0, 0)", x.put(sheet, 0, 0), Due.NONE);
        }
        Due.is("restore()", x.restore(), Due.NONE);
        Due.is("body(0)", x.body(0), Due.NONE);
        Due.is("personIs(0, 0)", x.personIs(0, 0), Due.BEYOND);
        Due.is("check()", x.check(), 0);
        Due.is("told(2)", x.told(2), 6);
        Due.is("another object's told(2)", new VeilSteps().told(2), 0);
    }

    private static void person() {
        Due.about("promise 2");
        VeilSteps x = new VeilSteps();
        Due.is("person(-1, -1)", x.person(-1, -1), Due.BEYOND);
        Due.is("person(70, -1)", x.person(70, -1), Due.BEYOND);
        Due.is("person(0, -2)", x.person(0, -2), Due.BEYOND);
        Due.is("person(0, 0)", x.person(0, 0), Due.BEYOND);
        Due.is("person(MIN, MIN)", x.person(MIN, MIN), Due.BEYOND);
        Due.is("person(MAX, MAX)", x.person(MAX, MAX), Due.BEYOND);
        Due.is("count(0)", x.count(0), 0);
        Due.is("person(69, -1)", x.person(69, -1), 0);
        Due.is("person(0, 0)", x.person(0, 0), 1);
        Due.is("person(0, 2)", x.person(0, 2), Due.BEYOND);
        Due.is("person(38, 1)", x.person(38, 1), 2);
        Due.is("kind", x.personIs(2, 0), 3);
        Due.is("m", x.personIs(2, 1), 8);
        Due.is("parent", x.personIs(2, 2), 1);
        Due.is("spouse", x.personIs(2, 3), -1);
        Due.is("seen", x.personIs(2, 4), 0);
        for (int i = 3; i < 8; i++) {
            Due.is("person(10, -1)", x.person(10, -1), i);
        }
        Due.is("person(0, -1), a ninth", x.person(0, -1), Due.FULL);
        Due.is("person(0, 7), a ninth", x.person(0, 7), Due.FULL);
        Due.is("person(70, -1), a ninth", x.person(70, -1), Due.BEYOND);
        Due.is("person(0, 8), a ninth", x.person(0, 8), Due.BEYOND);
        Due.is("count(0)", x.count(0), 8);
        Due.is("told(4)", x.told(4), 2);
    }

    private static void personIs() {
        Due.about("promise 3");
        VeilSteps x = Due.family();
        x.marries(6, 3);
        int[][] are = {
            {0, 5, -1, -1}, {1, 3, 0, -1}, {2, 4, 0, -1}, {3, 6, 1, 6}, {4, 2, 1, -1}, {5, 7, 2, -1}, {6, 4, -1, 3},
        };
        for (int i = 0; i < 7; i++) {
            for (int what = 0; what < 4; what++) {
                Due.is("personIs(" + i + ", " + what + ")", x.personIs(i, what), are[i][what]);
            }
            Due.is("seen", x.personIs(i, 4), 0);
        }
        int[] even = {2, 5, 5, 1, 5, 12, 4};
        int[] odd = {2, 5, 5, 1, 5, 5, 4};
        for (int i = 0; i < 7; i++) {
            Due.is("sight of " + i, x.personIs(i, 5), even[i]);
        }
        x.year(1);
        for (int i = 0; i < 7; i++) {
            Due.is("sight of " + i + " in an odd year", x.personIs(i, 5), odd[i]);
        }
        for (int year = 2; year < 9; year++) {
            x.year(year);
            Due.is("a RING in YEAR " + year, x.personIs(5, 5), year % 2 == 0 ? 12 : 5);
        }
        x.marries(4, 0);
        Due.is("a GOATHERD with a spouse", x.personIs(4, 5), 2 + 2 + 2);
        x.parts(0);
        x.marries(4, 1);
        Due.is("spouse and parent in one are one", x.personIs(4, 5), 2 + 1 + 2);
        Due.is("personIs(-1, 0)", x.personIs(-1, 0), Due.BEYOND);
        Due.is("personIs(7, 0)", x.personIs(7, 0), Due.BEYOND);
        Due.is("personIs(0, -1)", x.personIs(0, -1), Due.BEYOND);
        Due.is("personIs(0, 6)", x.personIs(0, 6), Due.BEYOND);
        Due.is("personIs(MIN, MAX)", x.personIs(MIN, MAX), Due.BEYOND);
        sightByText();
        seenAsSet();
    }

    private static void sightByText() {
        VeilSteps x = Due.family();
        Due.tell(x, 1, "e*100+y*10+c");
        x.become(0, 60);
        x.trade(0, 0);
        Due.is("nothing", x.personIs(0, 5), 0);
        x.trade(0, 39);
        Due.is("a tenth of CLOTH, cut", x.personIs(0, 5), 3);
        x.year(11);
        Due.is("y is YEAR by 8", x.personIs(0, 5), 33);
        x.become(0, 61);
        Due.is("held at 40", x.personIs(0, 5), 40);
        Due.tell(x, 1, "e-50");
        Due.is("held at 0", x.personIs(0, 5), 0);
        x.untell(1);
        x.become(0, 69);
        Due.is("a STRANGER's m", x.personIs(0, 5), 9);
    }

    private static void seenAsSet() {
        VeilSteps x = Due.line(3);
        x.years(1);
        Due.is("who looked", x.personIs(0, 4), 2);
        Due.is("who was met", x.personIs(1, 4), 0);
    }

    private static void become() {
        Due.about("promise 4");
        VeilSteps x = Due.family();
        x.marries(3, 6);
        Due.is("become(3, 69)", x.become(3, 69), 3);
        Due.is("kind", x.personIs(3, 0), 6);
        Due.is("m", x.personIs(3, 1), 9);
        Due.is("parent stays", x.personIs(3, 2), 1);
        Due.is("spouse stays", x.personIs(3, 3), 6);
        Due.is("become(3, 0)", x.become(3, 0), 6);
        Due.is("become(3, 1)", x.become(3, 1), 0);
        Due.is("become(3, -1)", x.become(3, -1), Due.BEYOND);
        Due.is("become(3, 70)", x.become(3, 70), Due.BEYOND);
        Due.is("become(7, 0)", x.become(7, 0), Due.BEYOND);
        Due.is("become(-1, 0)", x.become(-1, 0), Due.BEYOND);
        Due.is("m", x.personIs(3, 1), 1);
    }

    private static void as() {
        Due.about("promise 5");
        VeilSteps x = Due.family();
        String[] under = {"0", "01", "02", "03", "014", "025", "06"};
        for (int i = 0; i < 7; i++) {
            for (int kind = 0; kind < 7; kind++) {
                boolean is = under[i].indexOf('0' + kind) >= 0;
                Due.is("as(" + i + ", " + kind + ")", x.as(i, kind), is ? x.personIs(i, 1) : Due.KIND);
            }
        }
        Due.is("as(0, 7)", x.as(0, 7), Due.BEYOND);
        Due.is("as(0, -1)", x.as(0, -1), Due.BEYOND);
        Due.is("as(7, 0)", x.as(7, 0), Due.BEYOND);
        Due.is("as(-1, 9)", x.as(-1, 9), Due.BEYOND);
        Due.is("told(5)", x.told(5), 49 - 15);
    }

    private static void descends() {
        Due.about("promise 6");
        VeilSteps x = Due.family();
        Due.is("descends(6, 5)", x.descends(6, 5), -1);
        Due.is("parent", x.personIs(6, 2), 5);
        Due.is("steps(6, 0)", x.steps(6, 0), 3);
        Due.is("descends(6, -1)", x.descends(6, -1), 5);
        Due.is("steps(6, 0)", x.steps(6, 0), 40);
        Due.is("descends(6, 6)", x.descends(6, 6), Due.BEYOND);
        Due.is("descends(2, 3)", x.descends(2, 3), Due.BEYOND);
        Due.is("descends(2, -2)", x.descends(2, -2), Due.BEYOND);
        Due.is("descends(7, 0)", x.descends(7, 0), Due.BEYOND);
        Due.is("descends(-1, -1)", x.descends(-1, -1), Due.BEYOND);
        Due.is("descends(0, -1)", x.descends(0, -1), -1);
        Due.is("descends(2, 0)", x.descends(2, 0), 0);
        Due.is("descends(2, 1)", x.descends(2, 1), 0);
        Due.is("steps(2, 0)", x.steps(2, 0), 2);
    }

    private static void marries() {
        Due.about("promise 7");
        VeilSteps x = Due.family();
        Due.is("marries(1, 6)", x.marries(1, 6), 4);
        Due.is("spouse", x.personIs(1, 3), 6);
        Due.is("spouse", x.personIs(6, 3), 1);
        Due.is("steps(6, 3)", x.steps(6, 3), 2);
        Due.is("marries(1, 2)", x.marries(1, 2), Due.STATE);
        Due.is("marries(2, 1)", x.marries(2, 1), Due.STATE);
        Due.is("marries(1, 6)", x.marries(1, 6), Due.STATE);
        Due.is("marries(1, 1)", x.marries(1, 1), Due.BEYOND);
        Due.is("marries(1, 7)", x.marries(1, 7), Due.BEYOND);
        Due.is("marries(-1, 0)", x.marries(-1, 0), Due.BEYOND);
        Due.is("marries(2, 0), parent and spouse in one", x.marries(2, 0), 2);
        VeilSteps y = Due.family();
        Due.is("marries(6, 1)", y.marries(6, 1), 1);
    }

    private static void parts() {
        Due.about("promise 8");
        VeilSteps x = Due.family();
        Due.is("parts(0)", x.parts(0), Due.NONE);
        x.marries(4, 5);
        Due.is("parts(5)", x.parts(5), 4);
        Due.is("spouse", x.personIs(4, 3), -1);
        Due.is("spouse", x.personIs(5, 3), -1);
        Due.is("steps(4, 5)", x.steps(4, 5), 4);
        Due.is("parts(4)", x.parts(4), Due.NONE);
        x.marries(5, 2);
        Due.is("parts(5)", x.parts(5), 2);
        Due.is("kin stays kin", x.steps(5, 2), 1);
        Due.is("parts(-1)", x.parts(-1), Due.BEYOND);
        Due.is("parts(7)", x.parts(7), Due.BEYOND);
        Due.is("marries(4, 2), again", x.marries(4, 2), 2);
    }

    private static void steps() {
        Due.about("promise 9");
        VeilSteps x = Due.family();
        int[][] are = {
            {0, 1, 1, 2, 2, 2, 40},
            {1, 0, 2, 1, 1, 3, 40},
            {1, 2, 0, 3, 3, 1, 40},
            {2, 1, 3, 0, 2, 4, 40},
            {2, 1, 3, 2, 0, 4, 40},
            {2, 3, 1, 4, 4, 0, 40},
            {40, 40, 40, 40, 40, 40, 0},
        };
        for (int i = 0; i < 7; i++) {
            for (int j = 0; j < 7; j++) {
                Due.is("steps(" + i + ", " + j + ")", x.steps(i, j), are[i][j]);
            }
        }
        Due.is("steps(7, 0)", x.steps(7, 0), Due.BEYOND);
        Due.is("steps(0, 7)", x.steps(0, 7), Due.BEYOND);
        Due.is("steps(-1, 0)", x.steps(-1, 0), Due.BEYOND);
        Due.is("steps(0, MIN)", x.steps(0, MIN), Due.BEYOND);
        VeilSteps y = Due.line(8);
        Due.is("a line of eight", y.steps(7, 0), 7);
        y.marries(6, 1);
        Due.is("a shorter way", y.steps(0, 7), 3);
        Due.is("and round it", y.steps(5, 0), 3);
    }

    private static void lets() {
        Due.about("promise 10");
        VeilSteps x = Due.line(6);
        x.person(0, -1);
        int[][] due = {
            {0, 1, 2, 3, 4, 5, 40},
            {0, 0, 1, 1, 2, 2, 20},
            {0, 0, 2, 1, 4, 1, 40},
            {0, 2, 4, 6, 8, 10, 40},
            {3, 3, 4, 4, 5, 5, 23},
            {0, 0, 2, 1, 4, 1, 4},
            {1, 2, 3, 40, 40, 40, 40},
        };
        for (int kind = 0; kind < 7; kind++) {
            x.become(0, kind * 10 + 3);
            for (int i = 0; i < 7; i++) {
                Due.is("kind " + kind + ": lets(0, " + i + ")", x.lets(0, i), due[kind][i]);
            }
        }
        letsBeyond(x);
        letsByText();
    }

    private static void letsBeyond(VeilSteps x) {
        Due.is("lets(0, 7)", x.lets(0, 7), Due.BEYOND);
        Due.is("lets(7, 0)", x.lets(7, 0), Due.BEYOND);
        Due.is("lets(-1, 0)", x.lets(-1, 0), Due.BEYOND);
        Due.is("lets(0, MAX)", x.lets(0, MAX), Due.BEYOND);
        VeilSteps y = Due.line(8);
        y.become(0, 50);
        Due.is("a RING six off would let 6, but 4 at most", y.lets(0, 6), 4);
        Due.is("a RING seven off", y.lets(0, 7), 2);
        y.become(0, 20);
        Due.is("a JUDGE six off", y.lets(0, 6), 6);
        Due.is("a JUDGE seven off", y.lets(0, 7), 2);
    }

    private static void letsByText() {
        VeilSteps x = Due.line(3);
        x.person(30, -1);
        Due.tell(x, 0, "v*5+s*3+y");
        Due.is("v, s, y", x.lets(0, 2), 16);
        x.year(15);
        Due.is("y is YEAR by 8", x.lets(0, 2), 23);
        Due.tell(x, 0, "v/2");
        Due.is("v is not held, what it gives is", x.lets(3, 0), 40);
        Due.tell(x, 0, "v-79");
        Due.is("v of a BALE far off is 80", x.lets(3, 0), 1);
        Due.tell(x, 0, "v-81");
        Due.is("held at 0", x.lets(3, 0), 0);
        x.untell(0);
        Due.is("80 without a TEXT, held", x.lets(3, 0), 40);
    }

    private static void meets() {
        Due.about("promise 11");
        VeilSteps x = new VeilSteps();
        Due.is("meets(0, 7, 3)", x.meets(0, 7, 3), 1);
        Due.is("meets(0, 0, 7)", x.meets(0, 0, 7), 73);
        Due.is("meets(0, 5, 5)", x.meets(0, 5, 5), 7);
        Due.is("meets(5, 0, 0)", x.meets(5, 0, 0), 1);
        Due.is("meets(6, 0, 0)", x.meets(6, 0, 0), Due.BEYOND);
        Due.is("meets(-1, 0, 0)", x.meets(-1, 0, 0), Due.BEYOND);
        Due.is("meets(0, 8, 0)", x.meets(0, 8, 0), Due.BEYOND);
        Due.is("meets(0, 0, 8)", x.meets(0, 0, 8), Due.BEYOND);
        Due.is("meets(0, -1, 0)", x.meets(0, -1, 0), Due.BEYOND);
        Due.is("meets(0, 0, -1)", x.meets(0, 0, -1), Due.BEYOND);
        Due.is("meets(0, 0, 0)", x.meets(0, 0, 0), 55);
    }

    private static void trade() {
        Due.about("promise 12");
        VeilSteps x = new VeilSteps();
        Due.is("trade(0, 999)", x.trade(0, 999), 100);
        Due.is("trade(1, 40)", x.trade(1, 40), 5);
        Due.is("trade(0, 1000)", x.trade(0, 1000), Due.BEYOND);
        Due.is("trade(1, 41)", x.trade(1, 41), Due.BEYOND);
        Due.is("trade(0, -1)", x.trade(0, -1), Due.BEYOND);
        Due.is("trade(1, -1)", x.trade(1, -1), Due.BEYOND);
        Due.is("trade(2, 0)", x.trade(2, 0), Due.BEYOND);
        Due.is("trade(-1, 0)", x.trade(-1, 0), Due.BEYOND);
        Due.is("count(2)", x.count(2), 999);
        Due.is("count(3)", x.count(3), 40);
        Due.is("trade(0, 0)", x.trade(0, 0), 999);
        Due.is("trade(1, 0)", x.trade(1, 0), 40);
    }
}
