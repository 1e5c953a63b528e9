// Promises 21 to 28: what would be.
public final class ThoughtTest {
    private static final int MAX = Integer.MAX_VALUE;
    private static final int MIN = Integer.MIN_VALUE;

    public static void main(String[] args) {
        then();
        soonest();
        match();
        orderFor();
        seers();
        witnesses();
        odds();
        fits();
        Due.close();
    }

    private static void meetInLine(VeilSteps x) {
        for (int place = 0; place < 6; place++) {
            x.meets(place, place, place + 1);
        }
    }

    private static void isAsItWas(VeilSteps x, int year, int cloth, int order, int seen) {
        Due.is("YEAR is as it was", x.count(1), year);
        Due.is("CLOTH is as it was", x.count(2), cloth);
        Due.is("ORDER is as it was", x.count(3), order);
        Due.is("SEEN is as it was", x.count(4), seen);
    }

    private static void then() {
        Due.about("promise 21");
        VeilSteps x = Due.line(8);
        meetInLine(x);
        Due.is("then(3, 0)", x.then(3, 0), 0);
        Due.is("then(3, 3)", x.then(3, 3), 0);
        Due.is("then(3, 4)", x.then(3, 4), 16);
        Due.is("then(3, 60)", x.then(3, 60), 16);
        Due.is("then(3, 61)", x.then(3, 61), Due.BEYOND);
        Due.is("then(3, -1)", x.then(3, -1), Due.BEYOND);
        Due.is("then(8, 0)", x.then(8, 0), Due.BEYOND);
        Due.is("then(-1, 0)", x.then(-1, 0), Due.BEYOND);
        isAsItWas(x, 0, 100, 5, 0);
        x.years(4);
        Due.is("then(3, 0)", x.then(3, 0), 16);
        x.year(9999);
        Due.is("9999 is of place 3, and 10001 of place 5", x.then(5, 2), 0);
        Due.is("beyond 9999, too", x.then(5, 3), 64);
        isAsItWas(x, 9999, 116, 5, 4);
    }

    private static void soonest() {
        Due.about("promise 22");
        VeilSteps x = Due.line(8);
        meetInLine(x);
        for (int i = 0; i < 6; i++) {
            Due.is("soonest(" + i + ", ..)", x.soonest(i, i + 1), i + 1);
        }
        Due.is("soonest(6, 7)", x.soonest(6, 7), Due.NONE);
        Due.is("soonest(0, 0)", x.soonest(0, 0), Due.NONE);
        Due.is("soonest(8, 0)", x.soonest(8, 0), Due.BEYOND);
        Due.is("soonest(0, 8)", x.soonest(0, 8), Due.BEYOND);
        Due.is("soonest(-1, -1)", x.soonest(-1, -1), Due.BEYOND);
        isAsItWas(x, 0, 100, 5, 0);
        x.years(1);
        Due.is("already", x.soonest(0, 1), 0);
        Due.is("one YEAR less", x.soonest(5, 6), 5);
        x.sheet(0, 32, 1);
        x.put(0, 0, 1);
        x.seenAll(0);
        Due.is("itself", x.soonest(0, 0), 0);
        behindSixty();
    }

    // Far ones wear 40 of CLOTH, until there is none: then 2 ahead of the YEAR that c says.
    private static void behindSixty() {
        VeilSteps x = Due.women(2);
        x.trade(0, 980);
        x.trade(1, 24);
        int cloth = 980;
        int years = 0;
        while (cloth > 39) {
            cloth = cloth - 40 + 24;
            years++;
        }
        Due.is("the model's CLOTH runs out behind 59", years, 59);
        Due.tell(x, 1, "39");
        Due.is("36 are worn in the 60th", x.soonest(0, 1), 60);
        x.trade(0, 981);
        Due.is("37 are worn in the 60th", x.soonest(0, 1), 60);
        x.trade(0, 996);
        Due.is("not by 60", x.soonest(0, 1), Due.NONE);
    }

    private static void match() {
        Due.about("promise 23");
        VeilSteps x = Due.family();
        Due.is("match(3, 5, 0)", x.match(3, 5, 0), 35);
        Due.is("match(3, 5, 1)", x.match(3, 5, 1), 1);
        Due.is("match(6, 4, 0)", x.match(6, 4, 0), 46);
        Due.is("match(2, 1, 0)", x.match(2, 1, 0), 12);
        Due.is("match(2, 1, 1)", x.match(2, 1, 1), 1);
        Due.is("match(5, 6, 0)", x.match(5, 6, 0), 56);
        Due.is("match(0, 1, 0)", x.match(0, 1, 0), Due.NONE);
        Due.is("match(0, 1, 1)", x.match(0, 1, 1), Due.NONE);
        Due.is("match(2, 2, 0)", x.match(2, 2, 0), Due.NONE);
        Due.is("match(0, 0, 2)", x.match(0, 0, 2), Due.BEYOND);
        Due.is("match(0, 0, -1)", x.match(0, 0, -1), Due.BEYOND);
        Due.is("match(7, 0, 0)", x.match(7, 0, 0), Due.BEYOND);
        Due.is("match(0, 7, 0)", x.match(0, 7, 0), Due.BEYOND);
        x.marries(3, 0);
        Due.is("3 has a SPOUSE: 1 and 2 are the first of 2 steps", x.steps(3, 5), 3);
        Due.is("match(3, 5, 1)", x.match(3, 5, 1), 2);
        Due.is("match(3, 5, 0)", x.match(3, 5, 0), 15);
        Due.is("match(5, 3, 0)", x.match(5, 3, 0), 15);
        x.marries(1, 2);
        Due.is("match(3, 5, 1): none is fewer", x.match(3, 5, 1), Due.NONE);
        Due.is("match(3, 6, 1)", x.match(3, 6, 1), 3);
        Due.is("match(3, 6, 0)", x.match(3, 6, 0), 46);
        Due.is("spouses are as they were", x.personIs(4, 3), -1);
        Due.is("steps are as they were", x.steps(4, 6), 40);
        ofSeveral();
    }

    private static void ofSeveral() {
        VeilSteps x = Due.line(8);
        x.marries(0, 7);
        Due.is("a ring of eight", x.steps(1, 5), 4);
        Due.is("match(1, 5, 1)", x.match(1, 5, 1), 1);
        x.parts(0);
        x.marries(1, 3);
        Due.is("steps(1, 5)", x.steps(1, 5), 3);
        Due.is("match(1, 5, 1), by 0 and 5 or 2 and 5", x.match(1, 5, 1), 2);
        Due.is("the lesser number first", x.match(1, 5, 0), 5);
        x.marries(0, 5);
        Due.is("steps(1, 5)", x.steps(1, 5), 2);
        Due.is("match(1, 5, 1)", x.match(1, 5, 1), Due.NONE);
        Due.is("match(7, 2, 1)", x.match(7, 2, 1), 1);
        Due.is("match(6, 2, 0)", x.match(6, 2, 0), 26);
    }

    private static void orderFor() {
        Due.about("promise 24");
        VeilSteps x = Due.women(2);
        x.trade(0, 50);
        Due.is("50, 10 + o, ..: o of 3 keeps 3 over", x.orderFor(1, 2), 0);
        Due.is("seen in the third, if o is below 3", x.orderFor(1, 3), 3);
        Due.is("orderFor(1, 40)", x.orderFor(1, 40), 3);
        Due.is("orderFor(0, 40)", x.orderFor(0, 40), 0);
        Due.is("orderFor(1, 0)", x.orderFor(1, 0), 0);
        Due.is("orderFor(1, 41)", x.orderFor(1, 41), Due.BEYOND);
        Due.is("orderFor(1, -1)", x.orderFor(1, -1), Due.BEYOND);
        Due.is("orderFor(2, 0)", x.orderFor(2, 0), Due.BEYOND);
        Due.is("orderFor(-1, 0)", x.orderFor(-1, 0), Due.BEYOND);
        isAsItWas(x, 0, 50, 5, 0);
        x.trade(0, 1);
        Due.is("seen whatever the ORDER", x.orderFor(1, 1), Due.NONE);
        x.years(1);
        Due.is("who has seen now has then", x.orderFor(1, 40), 0);
        Due.tell(x, 1, "39");
        x.sheet(0, 8, 1);
        x.seenAll(0);
        x.trade(0, 40);
        Due.is("40 is just enough", x.orderFor(1, 2), 40);
    }

    private static void seers() {
        Due.about("promise 25");
        VeilSteps x = Due.family();
        x.sheet(0, 8, 7);
        int[] seen = {5, 0, 6, 127, 1, 64, 3};
        for (int i = 0; i < 7; i++) {
            x.put(0, i, seen[i]);
        }
        Due.is("seenAll(0)", x.seenAll(0), 7);
        Due.is("seers(0)", x.seers(0), 1 + 8 + 16 + 64);
        Due.is("seers(1)", x.seers(1), 4 + 8 + 64);
        Due.is("seers(2)", x.seers(2), 1 + 4 + 8);
        Due.is("seers(5)", x.seers(5), 8);
        Due.is("seers(6)", x.seers(6), 8 + 32);
        Due.is("seers(7)", x.seers(7), Due.BEYOND);
        Due.is("seers(-1)", x.seers(-1), Due.BEYOND);
        Due.is("seers(MIN)", x.seers(MIN), Due.BEYOND);
        Due.is("seers(MAX)", x.seers(MAX), Due.BEYOND);
        Due.is("none", Due.women(1).seers(0), 0);
    }

    private static void witnesses() {
        Due.about("promise 26");
        VeilSteps x = Due.women(8);
        x.sheet(0, 32, 8);
        int[] seen = {3, 12, 48, 192, 15, 240, 1, 128};
        for (int i = 0; i < 8; i++) {
            x.put(0, i, seen[i]);
        }
        Due.is("seenAll(0)", x.seenAll(0), 8);
        Due.is("witnesses(0)", x.witnesses(0), 0);
        Due.is("witnesses(255)", x.witnesses(255), 48);
        Due.is("witnesses(1)", x.witnesses(1), 1);
        Due.is("witnesses(128)", x.witnesses(128), 8);
        Due.is("witnesses(5)", x.witnesses(5), 16);
        Due.is("witnesses(24)", x.witnesses(24), 2 + 4);
        Due.is("witnesses(129)", x.witnesses(129), 1 + 8);
        Due.is("witnesses(256)", x.witnesses(256), Due.BEYOND);
        Due.is("witnesses(-1)", x.witnesses(-1), Due.BEYOND);
        Due.is("witnesses(MIN)", x.witnesses(MIN), Due.BEYOND);
        Due.is("witnesses(MAX)", x.witnesses(MAX), Due.BEYOND);
        VeilSteps y = Due.women(3);
        Due.is("none have", y.witnesses(1), Due.NONE);
        Due.is("nobody is seen", y.witnesses(0), 0);
        Due.is("not of PEOPLE", y.witnesses(8), Due.BEYOND);
        VeilSteps z = new VeilSteps();
        Due.is("without PEOPLE", z.witnesses(0), 0);
        Due.is("without PEOPLE", z.witnesses(1), Due.BEYOND);
    }

    private static void odds() {
        Due.about("promise 27");
        VeilSteps x = Due.women(1);
        Due.is("nobody else", x.odds(0, 0), Due.STATE);
        Due.is("odds(0, 2)", x.odds(0, 2), Due.BEYOND);
        Due.is("odds(0, -1)", x.odds(0, -1), Due.BEYOND);
        Due.is("odds(1, 0)", x.odds(1, 0), Due.BEYOND);
        Due.is("odds(-1, 0)", x.odds(-1, 0), Due.BEYOND);
        x.person(0, 0);
        Due.is("one other: 1", x.odds(0, 0), 1);
        Due.is("one other: by 1", x.odds(0, 1), 1);
        x.descends(1, -1);
        x.person(0, -1);
        Due.is("0 is 0", x.odds(0, 0), 0);
        Due.is("by 1", x.odds(0, 1), 1);
        x.descends(1, 0);
        Due.is("1", x.odds(0, 0), 1);
        Due.is("by 2", x.odds(0, 1), 2);
        x.descends(2, 0);
        Due.is("all: 1", x.odds(0, 0), 1);
        Due.is("by 1", x.odds(0, 1), 1);
        VeilSteps y = Due.line(7);
        Due.is("2 of 6", y.odds(0, 0), 1);
        Due.is("2 of 6", y.odds(0, 1), 3);
        Due.is("4 of 6", y.odds(3, 0), 2);
        Due.is("4 of 6", y.odds(3, 1), 3);
        Due.is("3 of 6", y.odds(1, 1), 2);
        y.become(2, 30);
        Due.is("the others' VEILS", y.odds(0, 0), 1);
        Due.is("the others' VEILS", y.odds(0, 1), 6);
        y.become(2, 0);
        y.become(0, 30);
        Due.is("its SIGHT", y.odds(0, 0), 1);
        Due.is("its SIGHT", y.odds(0, 1), 6);
        y.become(0, 65);
        Due.is("5 of 6", y.odds(0, 0), 5);
        Due.is("5 of 6", y.odds(0, 1), 6);
    }

    private static void fits() {
        Due.about("promise 28");
        VeilSteps x = Due.line(5);
        x.sheet(0, 8, 5);
        for (int i = 0; i < 5; i++) {
            x.put(0, i, x.steps(4, i));
        }
        Due.is("fits(0, 4, 0)", x.fits(0, 4, 0), 8);
        Due.is("fits(0, 4, 1)", x.fits(0, 4, 1), 1);
        x.descends(4, -1);
        Due.is("nobody is no PARENT that may be so", x.fits(0, 4, 0), 8);
        Due.is("PARENT is as it was", x.personIs(4, 2), -1);
        Due.is("STEPS are as they were", x.steps(4, 3), 40);
        x.put(0, 4, 1);
        Due.is("for itself", x.fits(0, 4, 0), 0);
        x.sheet(0, 16, 6);
        Due.is("a number for which there is nobody", x.fits(0, 4, 0), 0);
        Due.is("how many", x.fits(0, 4, 1), 0);
        x.sheet(0, 32, 0);
        Due.is("without numbers", x.fits(0, 4, 0), 15);
        Due.is("without numbers", x.fits(0, 4, 1), 4);
        Due.is("of the first", x.fits(0, 0, 0), 0);
        x.become(4, 10);
        x.sheet(1, 8, 1);
        x.put(1, 0, 1);
        Due.is("an HEIRESS 2 or 3 off lets down 1", x.fits(1, 4, 0), 6);
        Due.is("how many", x.fits(1, 4, 1), 2);
        fitsBeyond(x);
        fitsByText();
    }

    private static void fitsBeyond(VeilSteps x) {
        Due.is("fits(3, 0, 0)", x.fits(3, 0, 0), Due.NONE);
        Due.is("fits(3, 5, 0)", x.fits(3, 5, 0), Due.BEYOND);
        Due.is("fits(4, 0, 0)", x.fits(4, 0, 0), Due.BEYOND);
        Due.is("fits(-1, 0, 0)", x.fits(-1, 0, 0), Due.BEYOND);
        Due.is("fits(0, -1, 0)", x.fits(0, -1, 0), Due.BEYOND);
        Due.is("fits(0, 0, 2)", x.fits(0, 0, 2), Due.BEYOND);
        Due.is("fits(3, 0, -1)", x.fits(3, 0, -1), Due.BEYOND);
    }

    private static void fitsByText() {
        VeilSteps x = Due.line(3);
        x.sheet(0, 8, 3);
        x.put(0, 0, 3);
        x.put(0, 1, 3);
        x.put(0, 2, 3);
        Due.is("by STEPS", x.fits(0, 2, 0), 0);
        Due.tell(x, 0, "3");
        Due.is("by the TEXT", x.fits(0, 2, 0), 3);
        x.marries(2, 0);
        x.untell(0);
        x.put(0, 0, 1);
        x.put(0, 1, 1);
        x.put(0, 2, 0);
        Due.is("the SPOUSE stays", x.fits(0, 2, 0), 2);
        x.put(0, 1, 2);
        Due.is("the SPOUSE stays", x.fits(0, 2, 0), 1);
    }
}
