// Promises 36 to 41: images, and what is told.
public final class ToldTest {
    private static final int MIN = Integer.MIN_VALUE;
    private static final int MAX = Integer.MAX_VALUE;

    public static void main(String[] args) {
        image();
        restore();
        tell();
        check();
        count();
        told();
        Due.close();
    }

    private static void image() {
        Due.about("promise 36");
        VeilSteps x = Due.women(2);
        Due.is("image()", x.image(), 1);
        x.person(0, -1);
        Due.is("image()", x.image(), 2);
        x.person(0, -1);
        Due.is("restore()", x.restore(), 0);
        Due.is("the latest", x.count(0), 3);
        Due.is("how often is not restored", x.image(), 3);
    }

    private static VeilSteps village() {
        VeilSteps x = Due.family();
        x.marries(3, 6);
        x.meets(0, 0, 1);
        x.meets(5, 6, 3);
        x.trade(1, 9);
        x.years(2);
        Due.tell(x, 0, "v+1");
        Due.tell(x, 1, "e+2");
        Due.feed(x, "y*");
        x.tell(4);
        x.seed(77);
        return x;
    }

    private static void spoil(VeilSteps x) {
        x.person(9, 6);
        for (int i = 0; i < 7; i++) {
            x.become(i, 69 - i);
        }
        x.descends(4, 3);
        x.parts(3);
        x.marries(0, 6);
        for (int place = 0; place < 6; place++) {
            x.meets(place, 7, 6 - place);
        }
        x.trade(0, 3);
        x.trade(1, 30);
        x.loose(20);
        x.feed('s', 1);
        x.text(0);
        x.untell(1);
        x.feed('y', 1);
        x.check();
        x.tell(1);
        x.tell(1);
        x.sheet(0, 8, 8);
        x.put(0, 0, 127);
        x.seenAll(0);
    }

    private static void isAsTold(VeilSteps x) {
        VeilSteps y = village();
        for (int what = 0; what < 9; what++) {
            if (what != 7) {
                Due.is("count(" + what + ")", x.count(what), y.count(what));
            }
        }
        for (int i = 0; i < 8; i++) {
            for (int what = 0; what < 6; what++) {
                Due.is("personIs(" + i + ", " + what + ")", x.personIs(i, what), y.personIs(i, what));
            }
            for (int j = 0; j < 8; j++) {
                Due.is("steps(" + i + ", " + j + ")", x.steps(i, j), y.steps(i, j));
                Due.is("lets(" + i + ", " + j + ")", x.lets(i, j), y.lets(i, j));
            }
        }
        for (int place = 0; place < 6; place++) {
            Due.is("meets(" + place + ", 0, 1)", x.meets(place, 0, 1), y.meets(place, 0, 1));
        }
        Due.feed(x, "s");
        Due.is("THE TAPE", x.text(0), 1);
        Due.is("y*s", x.law(0, 0, 5, 7), 35);
        Due.is("SIGHT's TEXT", x.law(1, 3, 0, 0), 5);
        x.check();
        x.tell(4);
    }

    private static void restore() {
        Due.about("promise 37");
        VeilSteps x = village();
        Due.is("restore()", x.restore(), Due.NONE);
        Due.is("image()", x.image(), 1);
        for (int i = 0; i < 2; i++) {
            spoil(x);
            Due.is("restore()", x.restore(), 2);
            isAsTold(x);
        }
        whatImagesLeave();
    }

    private static void whatImagesLeave() {
        VeilSteps x = Due.women(1);
        x.sheet(0, 8, 1);
        x.put(0, 0, 1);
        x.sheet(1, 8, 1);
        x.voice(0, 0, 0);
        x.image();
        x.voice(0, 1, 0);
        x.put(0, 0, -1);
        x.sheet(1, 0, 0);
        x.person(99, 0);
        x.restore();
        Due.is("SHEETS stay", x.judge(0), 1);
        Due.is("SHEETS stay", x.judge(1), Due.NONE);
        Due.is("THE TRACE stays", x.body(0), 11);
        Due.is("what is told stays", x.told(1), 1);
        Due.is("YEAR", x.year(5), 0);
        x.image();
        x.year(3);
        Due.is("YEAR as the IMAGE has it", x.restore(), 5);
        Due.is("YEAR", x.count(1), 5);
    }

    private static void tell() {
        Due.about("promise 38");
        VeilSteps x = new VeilSteps();
        for (int i = 1; i <= 24; i++) {
            Due.is("tell(.)", x.tell(i % 2 == 0 ? MIN : MAX), i);
        }
        Due.is("tell(0)", x.tell(0), Due.FULL);
        Due.is("count(6)", x.count(6), 24);
        Due.is("check()", x.check(), 1);
        Due.is("count(6)", x.count(6), 0);
        Due.is("tell(0)", x.tell(0), 1);
    }

    private static void check() {
        Due.about("promise 39");
        VeilSteps x = Due.family();
        Due.is("none wait", x.check(), 0);
        int[] sights = {2, 5, 5, 1, 5, 12, 4};
        for (int i = 0; i < 7; i++) {
            x.tell(sights[i]);
        }
        Due.is("all are so", x.check(), 0);
        Due.is("none wait", x.count(6), 0);
        for (int i = 0; i < 7; i++) {
            x.tell(sights[i]);
        }
        x.tell(0);
        Due.is("there is nobody for the eighth", x.check(), 8);
        for (int wrong = 0; wrong < 7; wrong++) {
            for (int i = 0; i < 7; i++) {
                x.tell(i == wrong || i == 6 ? -1 : sights[i]);
            }
            Due.is("the first that isn't so", x.check(), 1 + wrong);
            Due.is("none wait", x.count(6), 0);
        }
        x.tell(2);
        x.tell(5);
        Due.is("the first two", x.check(), 0);
        x.tell(2);
        Due.tell(x, 1, "e+c");
        Due.is("SIGHT now", x.check(), 1);
        x.tell(12);
        Due.is("SIGHT now", x.check(), 0);
    }

    private static void count() {
        Due.about("promise 40");
        VeilSteps x = Due.women(3);
        x.trade(0, 77);
        x.trade(1, 8);
        x.year(123);
        x.seed(Due.NONE);
        x.feed(0, 3);
        x.tell(0);
        x.tell(0);
        x.voice(1, 2, 0);
        x.sheet(0, 8, 3);
        x.put(0, 0, 7);
        x.put(0, 1, 1);
        x.put(0, 2, 5);
        x.seenAll(0);
        int[] due = {3, 123, 77, 8, 6, 3, 2, 3, Due.NONE};
        for (int what = 0; what < 9; what++) {
            Due.is("count(" + what + ")", x.count(what), due[what]);
        }
        Due.is("z is no ERROR", x.told(2), 0);
        Due.is("count(9)", x.count(9), Due.BEYOND);
        Due.is("count(-1)", x.count(-1), Due.BEYOND);
        Due.is("count(MIN)", x.count(MIN), Due.BEYOND);
    }

    private static void told() {
        Due.about("promise 41");
        VeilSteps x = new VeilSteps();
        Due.is("told(0)", x.told(0), Due.BEYOND);
        Due.is("told(7)", x.told(7), Due.BEYOND);
        Due.is("told(-1)", x.told(-1), Due.BEYOND);
        Due.is("told(MAX)", x.told(MAX), Due.BEYOND);
        Due.is("told(MIN)", x.told(MIN), Due.BEYOND);
        Due.is("counted, too", x.told(1), 5);
        x.body(0);
        x.body(1);
        x.person(0, -1);
        x.odds(0, 0);
        x.as(0, 1);
        x.voice(0, 3, 1);
        for (int i = 0; i < 25; i++) {
            x.tell(0);
        }
        int[] due = {0, 5, 2, 1, 1, 1, 1};
        for (int k = 1; k <= 6; k++) {
            Due.is("told(" + k + ")", x.told(k), due[k]);
        }
        x.text(0);
        Due.is("a FAULT is no ERROR", x.told(1), 5);
    }
}
