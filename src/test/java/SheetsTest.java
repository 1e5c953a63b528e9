// Promises 31 to 35: sheets.
public final class SheetsTest {
    private static final int MIN = Integer.MIN_VALUE;
    private static final int MAX = Integer.MAX_VALUE;

    public static void main(String[] args) {
        sheet();
        put();
        move();
        seenAll();
        judge();
        Due.close();
    }

    private static void sheet() {
        Due.about("promise 31");
        VeilSteps x = Due.line(8);
        Due.is("sheet(0, 8, 24)", x.sheet(0, 8, 24), 1);
        Due.is("put(0, 23, 1)", x.put(0, 23, 1), 1);
        Due.is("put(0, 24, 1)", x.put(0, 24, 1), Due.BEYOND);
        Due.is("sheet(1, 16, 0)", x.sheet(1, 16, 0), 1);
        Due.is("put(1, 0, 0)", x.put(1, 0, 0), Due.BEYOND);
        Due.is("sheet(2, 32, 1)", x.sheet(2, 32, 1), 1);
        Due.is("sheet(3, 0, -7)", x.sheet(3, 0, -7), 1);
        Due.is("sheet(3, 0, 99)", x.sheet(3, 0, 99), 1);
        Due.is("put(3, 0, 0)", x.put(3, 0, 0), Due.NONE);
        Due.is("sheet(2, 0, 1)", x.sheet(2, 0, 1), 1);
        Due.is("put(2, 0, 0)", x.put(2, 0, 0), Due.NONE);
        Due.is("sheet(0, 8, 25)", x.sheet(0, 8, 25), Due.BEYOND);
        Due.is("sheet(0, 8, MAX)", x.sheet(0, 8, MAX), Due.BEYOND);
        Due.is("sheet(0, 8, -1)", x.sheet(0, 8, -1), Due.STATE);
        Due.is("sheet(0, 8, MIN)", x.sheet(0, 8, MIN), Due.STATE);
        Due.is("sheet(4, 8, -1)", x.sheet(4, 8, -1), Due.BEYOND);
        Due.is("sheet(-1, 8, -1)", x.sheet(-1, 8, -1), Due.BEYOND);
        Due.is("sheet(0, 7, -1)", x.sheet(0, 7, -1), Due.BEYOND);
        Due.is("sheet(0, 64, 1)", x.sheet(0, 64, 1), Due.BEYOND);
        Due.is("sheet(0, -8, 1)", x.sheet(0, -8, 1), Due.BEYOND);
        Due.is("sheet(0, 24, 1)", x.sheet(0, 24, 1), Due.BEYOND);
        Due.is("put(0, 23, 1): it stayed", x.put(0, 23, 1), 1);
        allAreZero();
    }

    private static void allAreZero() {
        VeilSteps x = Due.line(4);
        x.sheet(0, 32, 4);
        x.put(0, 0, 1);
        x.put(0, 1, 1);
        Due.is("seenAll(0)", x.seenAll(0), 4);
        Due.is("seers(0)", x.seers(0), 3);
        x.sheet(0, 16, 3);
        Due.is("numbers made anew", x.seenAll(0), 3);
        Due.is("are 0", x.seers(0), 0);
    }

    private static void put() {
        Due.about("promise 32");
        VeilSteps x = Due.line(8);
        Due.is("put(4, 0, 0)", x.put(4, 0, 0), Due.BEYOND);
        Due.is("put(-1, 0, 0)", x.put(-1, 0, 0), Due.BEYOND);
        Due.is("put(0, 99, 0)", x.put(0, 99, 0), Due.NONE);
        x.sheet(0, 8, 2);
        x.sheet(1, 16, 2);
        x.sheet(2, 32, 2);
        Due.is("put(0, 2, 0)", x.put(0, 2, 0), Due.BEYOND);
        Due.is("put(0, -1, 0)", x.put(0, -1, 0), Due.BEYOND);
        Due.is("put(0, MIN, 0)", x.put(0, MIN, 0), Due.BEYOND);
        lowestBits(x, 0, 256 + 3, 3);
        lowestBits(x, 0, 127, 127);
        lowestBits(x, 0, 512, 0);
        lowestBits(x, 1, 65536 + 255, 255);
        lowestBits(x, 1, 256, -1);
        lowestBits(x, 2, 255, 255);
        lowestBits(x, 2, 65536 + 3, -1);
        lowestBits(x, 2, -1, -1);
        int[] none = {255, 65535, -1};
        for (int sheet = 0; sheet < 3; sheet++) {
            x.put(sheet, 0, none[sheet]);
            Due.is("with its sign, -1 is nobody", x.judge(sheet), 2);
        }
        x.put(1, 0, 255);
        Due.is("255 of 16 bits is not -1", x.judge(1), 0);
        x.put(0, 0, 128);
        Due.is("128 of 8 bits is below 0: no set", x.seenAll(0), 0);
    }

    private static void lowestBits(VeilSteps x, int sheet, int v, int set) {
        Due.is("put(" + sheet + ", 0, " + v + ")", x.put(sheet, 0, v), 1);
        Due.is("a set", x.seenAll(sheet), set < 0 ? 0 : 2);
        if (set >= 0) {
            Due.is("the set", x.personIs(0, 4), set);
        }
    }

    private static void fill(VeilSteps x, int sheet, int bits, int... numbers) {
        x.sheet(sheet, bits, numbers.length);
        for (int i = 0; i < numbers.length; i++) {
            x.put(sheet, i, numbers[i]);
        }
    }

    private static void stands(VeilSteps x, int sheet, int... numbers) {
        Due.is("seenAll(" + sheet + ")", x.seenAll(sheet), numbers.length);
        for (int i = 0; i < numbers.length; i++) {
            Due.is("number " + i + " of " + sheet, x.personIs(i, 4), numbers[i]);
        }
    }

    private static void move() {
        Due.about("promise 33");
        VeilSteps x = Due.women(8);
        fill(x, 0, 16, 1, 2, 3, 4, 5);
        fill(x, 1, 16, 11, 12, 13);
        fill(x, 2, 8, 7);
        Due.is("move(0, 1, 1, 0, 2)", x.move(0, 1, 1, 0, 2), 2);
        stands(x, 1, 2, 3, 13);
        stands(x, 0, 1, 2, 3, 4, 5);
        Due.is("move(0, 0, 0, 1, 4)", x.move(0, 0, 0, 1, 4), 4);
        stands(x, 0, 1, 1, 2, 3, 4);
        Due.is("move(0, 2, 0, 0, 3)", x.move(0, 2, 0, 0, 3), 3);
        stands(x, 0, 2, 3, 4, 3, 4);
        Due.is("move(0, 5, 1, 3, 0)", x.move(0, 5, 1, 3, 0), 0);
        Due.is("move(0, 6, 1, 0, 0)", x.move(0, 6, 1, 0, 0), Due.BEYOND);
        Due.is("move(0, 0, 1, 4, 0)", x.move(0, 0, 1, 4, 0), Due.BEYOND);
        Due.is("move(0, 0, 1, 0, 4)", x.move(0, 0, 1, 0, 4), Due.BEYOND);
        Due.is("move(1, 0, 0, 0, 4)", x.move(1, 0, 0, 0, 4), Due.BEYOND);
        Due.is("move(0, 3, 1, 0, 3)", x.move(0, 3, 1, 0, 3), Due.BEYOND);
        Due.is("move(0, -1, 1, 0, 1)", x.move(0, -1, 1, 0, 1), Due.BEYOND);
        Due.is("move(0, 0, 1, -1, 1)", x.move(0, 0, 1, -1, 1), Due.BEYOND);
        Due.is("move(0, 0, 1, 0, -1)", x.move(0, 0, 1, 0, -1), Due.BEYOND);
        Due.is("move(0, 1, 1, 0, MAX)", x.move(0, 1, 1, 0, MAX), Due.BEYOND);
        Due.is("move(0, MAX, 1, MAX, MAX)", x.move(0, MAX, 1, MAX, MAX), Due.BEYOND);
        Due.is("move(0, MIN, 1, MIN, MIN)", x.move(0, MIN, 1, MIN, MIN), Due.BEYOND);
        Due.is("move(0, 0, 2, 0, -1)", x.move(0, 0, 2, 0, -1), Due.KIND);
        Due.is("move(2, 9, 1, 0, 0)", x.move(2, 9, 1, 0, 0), Due.KIND);
        Due.is("move(3, 0, 2, 0, 0)", x.move(3, 0, 2, 0, 0), Due.NONE);
        Due.is("move(2, -1, 3, 0, 0)", x.move(2, -1, 3, 0, 0), Due.NONE);
        Due.is("move(4, 0, 3, 0, 0)", x.move(4, 0, 3, 0, 0), Due.BEYOND);
        Due.is("move(3, 0, -1, 0, 0)", x.move(3, 0, -1, 0, 0), Due.BEYOND);
        stands(x, 0, 2, 3, 4, 3, 4);
        stands(x, 1, 2, 3, 13);
    }

    private static void seenAll() {
        Due.about("promise 34");
        VeilSteps x = Due.women(3);
        Due.is("seenAll(4)", x.seenAll(4), Due.BEYOND);
        Due.is("seenAll(-1)", x.seenAll(-1), Due.BEYOND);
        Due.is("seenAll(0)", x.seenAll(0), Due.NONE);
        fill(x, 0, 8, 7, 1, 8, 3);
        Due.is("8 is no set of three", x.seenAll(0), 2);
        Due.is("the first", x.personIs(0, 4), 7);
        Due.is("the second", x.personIs(1, 4), 1);
        Due.is("the third", x.personIs(2, 4), 0);
        x.put(0, 2, 4);
        Due.is("there is nobody for the fourth", x.seenAll(0), 3);
        Due.is("count(4)", x.count(4), 5);
        fill(x, 0, 32, 0, MIN, 1);
        Due.is("MIN is no set", x.seenAll(0), 1);
        Due.is("0 is one, in place of what was", x.personIs(0, 4), 0);
        Due.is("the second stays", x.personIs(1, 4), 1);
        x.sheet(0, 32, 0);
        Due.is("without numbers", x.seenAll(0), 0);
        Due.is("no ERROR but three", x.told(1) + x.told(2), 3);
        fill(x, 1, 16, 3);
        Due.is("without PEOPLE", new VeilSteps().seenAll(1), Due.NONE);
        VeilSteps y = new VeilSteps();
        fill(y, 1, 16, 0);
        Due.is("without PEOPLE", y.seenAll(1), 0);
    }

    private static void judge() {
        Due.about("promise 35");
        VeilSteps x = Due.family();
        Due.is("judge(4)", x.judge(4), Due.BEYOND);
        Due.is("judge(-1)", x.judge(-1), Due.BEYOND);
        Due.is("judge(0)", x.judge(0), Due.NONE);
        for (int bits = 8; bits <= 32; bits *= 2) {
            fill(x, 0, bits, -1, 0, 0, 1, 1, 2, -1, 0);
            Due.is("judge(0): there is nobody for the eighth", x.judge(0), 7);
            x.put(0, 3, 0);
            Due.is("judge(0)", x.judge(0), 3);
            x.put(0, 0, 0);
            Due.is("judge(0)", x.judge(0), 0);
            fill(x, 0, bits, -1, 0);
            Due.is("judge(0)", x.judge(0), 2);
        }
        x.sheet(0, 32, 0);
        Due.is("without numbers", x.judge(0), 0);
        Due.is("no more ERRORS", x.told(1) + x.told(2), 3);
    }
}
