// Promises 31 to 35, and SHEETS of Term 4: each boundary case that a sentence names.
public final class SheetsBoundsTest {
    private static final String EIGHT = "person(0, -1); ".repeat(8);

    public static void main(String[] args) {
        sheet();
        sheetErrors();
        sheetAnew();
        put();
        lowestBits();
        moveErrors();
        moveBounds();
        moveOnItself();
        seenAll();
        seenAllSets();
        judge();
        Due.close();
    }

    private static void sheet() {
        Script.about("Term 4: SHEETS 0 .. 3", "sheet(0, 8, 1) = 1; sheet(3, 8, 1) = 1; sheet(4, 8, 1) = BEYOND; sheet(-1, 8, 1) = BEYOND; sheet(MIN, 8, 1) = BEYOND",
            "sheet(MAX, 8, 1) = BEYOND; put(0, 0, 1) = 1; put(1, 0, 1) = NONE; put(2, 0, 1) = NONE; put(3, 0, 1) = 1; put(4, 0, 1) = BEYOND");
        Script.about("Term 4: 8, 16, 32 bits, 0: missing", "sheet(0, 8, 1) = 1; sheet(0, 16, 1) = 1; sheet(0, 32, 1) = 1; put(0, 0, 1) = 1; sheet(0, 0, 1) = 1; put(0, 0, 1) = NONE",
            "sheet(0, 1, 1) = BEYOND; sheet(0, 4, 1) = BEYOND; sheet(0, 7, 1) = BEYOND; sheet(0, 9, 1) = BEYOND; sheet(0, 15, 1) = BEYOND; sheet(0, 17, 1) = BEYOND",
            "sheet(0, 24, 1) = BEYOND; sheet(0, 31, 1) = BEYOND; sheet(0, 33, 1) = BEYOND; sheet(0, 64, 1) = BEYOND; sheet(0, -8, 1) = BEYOND; put(0, 0, 1) = NONE");
        for (int bits = 8; bits <= 32; bits *= 2) {
            Script one = Script.about("Term 4: at most 24 numbers of " + bits + " bits", "sheet(0, " + bits + ", 24) = 1; put(0, 23, 1) = 1; put(0, 24, 1) = BEYOND");
            one.asks("sheet(0, " + bits + ", 25) = BEYOND; put(0, 23, 1) = 1; sheet(0, " + bits + ", 0) = 1; put(0, 0, 1) = BEYOND; sheet(0, " + bits + ", 1) = 1");
            one.asks("put(0, 0, 1) = 1; put(0, 1, 1) = BEYOND; sheet(0, " + bits + ", MAX) = BEYOND; sheet(0, " + bits + ", -1) = STATE; put(0, 0, 1) = 1");
        }
    }

    private static void sheetErrors() {
        Script.about("promise 31: STATE ahead of BEYOND of n", "sheet(0, 8, -1) = STATE; sheet(0, 8, MIN) = STATE; sheet(0, 8, 25) = BEYOND; told(3) = 2; told(1) = 1");
        Script.about("promise 31: BEYOND of the SHEET and of bits ahead of STATE", "sheet(4, 8, -1) = BEYOND; sheet(-1, 8, MIN) = BEYOND; sheet(0, 7, -1) = BEYOND; told(3) = 0",
            "sheet(4, 7, -1) = BEYOND; told(1) = 4");
        Script.about("promise 31: with 0 bits n doesn't matter", "sheet(0, 0, -1) = 1; sheet(0, 0, 25) = 1; sheet(0, 0, MIN) = 1; sheet(0, 0, MAX) = 1; sheet(4, 0, 1) = BEYOND",
            "sheet(-1, 0, -1) = BEYOND; told(3) = 0; judge(0) = NONE");
    }

    private static void sheetAnew() {
        Script.about("promise 31: all 0, as often as it is made", EIGHT, "fill(0, 8, 7, 7, 7, 7, 7, 7, 7, 7); seenAll(0) = 8; count(4) = 24; sheet(0, 8, 8); seenAll(0) = 8; count(4) = 0",
            "put(0, 7, 1); sheet(0, 8, 3); sheet(0, 8, 8); seenAll(0) = 8; count(4) = 0; put(0, 7, 1); sheet(0, 0, 0); sheet(0, 32, 8); seenAll(0) = 8; count(4) = 0");
        Script.about("promise 31: another one stays as it is", EIGHT, "fill(0, 8, 1, 3); fill(1, 8, 7, 15); sheet(2, 8, 2); sheet(0, 16, 2); seenAll(1) = 2; count(4) = 7");
        Script.about("promise 31: of other bits than ahead", EIGHT, "sheet(0, 8, 1); sheet(1, 16, 1); move(0, 0, 1, 0, 1) = KIND; sheet(0, 16, 1); move(0, 0, 1, 0, 1) = 1");
    }

    private static void put() {
        Script.about("promise 32: BEYOND, NONE, BEYOND", "put(4, 0, 0) = BEYOND; put(-1, 0, 0) = BEYOND; put(0, 0, 0) = NONE; put(0, -1, 0) = NONE; put(0, 99, 0) = NONE; put(3, MIN, 0) = NONE",
            "sheet(0, 8, 2); put(0, -1, 0) = BEYOND; put(0, 2, 0) = BEYOND; put(0, MIN, 0) = BEYOND; put(0, MAX, 0) = BEYOND; put(4, 9, 0) = BEYOND; told(2) = 4; told(1) = 7");
        Script.about("promise 32: the first and the last", EIGHT, "sheet(0, 16, 8); put(0, 0, 1) = 1; put(0, 7, 3) = 1; seenAll(0) = 8; personIs(0, 4) = 1; personIs(7, 4) = 3; count(4) = 3");
        Script.about("promise 32: an empty one has no number", "sheet(0, 32, 0); put(0, 0, 0) = BEYOND; put(0, -1, 0) = BEYOND");
    }

    // What a number is: as a PARENT (-1 alone is told), or as a set.
    private static void number(int bits, String v, int due) {
        Script one = Script.of(EIGHT, "fill(0, " + bits + ", " + v + "); judge(0) = " + (due == -1 ? 1 : 0));
        one.asks(due < 0 || due > 255 ? "seenAll(0) = 0" : "seenAll(0) = 1; personIs(0, 4) = " + due);
    }

    private static void lowestBits() {
        Due.about("promise 32: its lowest bits, with their sign");
        number(8, "127", 127);
        number(8, "128", -128);
        number(8, "255", -1);
        number(8, "256", 0);
        number(8, "-1", -1);
        number(8, "-128", -128);
        number(8, "-129", 127);
        number(8, "-256", 0);
        number(8, "MAX", -1);
        number(8, "MIN", 0);
        number(16, "255", 255);
        number(16, "256", 256);
        number(16, "32767", 32767);
        number(16, "32768", -32768);
        number(16, "65535", -1);
        number(16, "65536", 0);
        number(16, "65791", 255);
        number(16, "-65536", 0);
        number(16, "-65535", 1);
        number(16, "MAX", -1);
        number(16, "MIN", 0);
        number(32, "255", 255);
        number(32, "65536", 65536);
        number(32, "65535", 65535);
        number(32, "MAX", Integer.MAX_VALUE);
        number(32, "MIN", Integer.MIN_VALUE);
        number(32, "-1", -1);
        number(32, "0", 0);
    }

    private static void moveErrors() {
        String some = "sheet(0, 8, 3); sheet(1, 16, 3); sheet(2, 8, 3); ";
        Script.about("promise 33: BEYOND of a SHEET is asked first", some, "move(4, 0, 0, 0, 1) = BEYOND; move(0, 0, 4, 0, 1) = BEYOND; move(-1, 0, 3, 0, 1) = BEYOND; move(3, 0, -1, 0, 1) = BEYOND",
            "move(MIN, 0, MAX, 0, 1) = BEYOND; told(2) = 0; told(1) = 5");
        Script.about("promise 33: NONE is asked ahead of KIND", some, "move(3, 0, 1, 0, 1) = NONE; move(0, 0, 3, 0, 1) = NONE; move(3, 9, 3, 9, 9) = NONE; move(3, -1, 0, -1, -1) = NONE; told(2) = 4");
        Script.about("promise 33: KIND is asked ahead of BEYOND of n, i, j", some, "move(0, 0, 1, 0, 1) = KIND; move(1, 0, 0, 0, 0) = KIND; move(0, -1, 1, 0, 1) = KIND; move(0, 0, 1, 9, 1) = KIND",
            "move(0, 0, 1, 0, MIN) = KIND; told(5) = 5; told(1) = 0");
        Script.about("promise 33: n, i, or j is below 0", some, "move(0, 0, 2, 0, -1) = BEYOND; move(0, -1, 2, 0, 1) = BEYOND; move(0, 0, 2, -1, 1) = BEYOND; move(0, -1, 2, 0, 0) = BEYOND",
            "move(0, 0, 2, -1, 0) = BEYOND; move(0, MIN, 2, MIN, MIN) = BEYOND; move(0, 0, 0, 0, -1) = BEYOND; told(1) = 7");
    }

    private static void moveBounds() {
        String some = EIGHT + "fill(0, 8, 1, 2, 4, 8); fill(1, 8, 16, 32, 64); ";
        Script.about("promise 33: all of it, and one more", some, "move(1, 0, 0, 1, 3) = 3; seenAll(0) = 4; personIs(0, 4) = 1; personIs(1, 4) = 16; personIs(2, 4) = 32; personIs(3, 4) = 64",
            "move(1, 0, 0, 0, 4) = BEYOND; move(0, 0, 1, 0, 4) = BEYOND; move(1, 0, 0, 2, 3) = BEYOND; move(0, 2, 1, 0, 3) = BEYOND; move(0, 1, 1, 0, 3) = 3");
        Script.about("promise 33: the last one", some, "move(0, 3, 1, 2, 1) = 1; seenAll(1) = 3; personIs(2, 4) = 8; personIs(1, 4) = 32; move(0, 4, 1, 2, 1) = BEYOND; move(0, 3, 1, 3, 1) = BEYOND");
        Script.about("promise 33: none, even behind the last", some, "move(0, 0, 1, 0, 0) = 0; move(0, 4, 1, 3, 0) = 0; move(0, 5, 1, 3, 0) = BEYOND; move(0, 4, 1, 4, 0) = BEYOND; seenAll(1) = 3",
            "personIs(0, 4) = 16");
        Script.about("promise 33: where ints would wrap", some, "move(0, 1, 1, 0, MAX) = BEYOND; move(0, MAX, 1, 0, 1) = BEYOND; move(0, 0, 1, MAX, 1) = BEYOND; move(0, MAX, 1, MAX, MAX) = BEYOND",
            "move(0, MAX, 1, 0, 0) = BEYOND; move(0, 2, 1, 1, MAX) = BEYOND");
        Script.about("promise 33: of empty ones", "sheet(0, 16, 0); sheet(1, 16, 0); move(0, 0, 1, 0, 0) = 0; move(0, 0, 0, 0, 0) = 0; move(0, 0, 1, 0, 1) = BEYOND; move(0, 1, 1, 0, 0) = BEYOND");
        Script.about("promise 33: 24 numbers", EIGHT + "sheet(0, 32, 24); sheet(1, 32, 24); put(0, 23, 5); put(0, 16, 3); move(0, 0, 1, 0, 24) = 24; move(1, 16, 1, 0, 8) = 8; seenAll(1) = 8",
            "personIs(0, 4) = 3; personIs(7, 4) = 5; move(0, 0, 1, 0, 25) = BEYOND; move(0, 1, 1, 0, 24) = BEYOND; move(0, 0, 1, 1, 24) = BEYOND");
    }

    private static void moveOnItself() {
        String some = EIGHT + "fill(0, 16, 1, 2, 4, 8, 16, 32, 64, 128); ";
        Script.about("promise 33: the same, as they all were: one on", some, "move(0, 0, 0, 1, 7) = 7; seenAll(0) = 8; personIs(0, 4) = 1; personIs(1, 4) = 1; personIs(2, 4) = 2; personIs(7, 4) = 64");
        Script.about("promise 33: the same, as they all were: one back", some, "move(0, 1, 0, 0, 7) = 7; seenAll(0) = 8; personIs(0, 4) = 2; personIs(5, 4) = 64; personIs(6, 4) = 128; personIs(7, 4) = 128");
        Script.about("promise 33: the same onto the same place", some, "move(0, 0, 0, 0, 8) = 8; move(0, 3, 0, 3, 2) = 2; seenAll(0) = 8; personIs(0, 4) = 1; personIs(3, 4) = 8; personIs(7, 4) = 128");
    }

    private static void seenAll() {
        Script.about("promise 34: BEYOND, NONE", EIGHT, "seenAll(-1) = BEYOND; seenAll(4) = BEYOND; seenAll(MIN) = BEYOND; seenAll(MAX) = BEYOND; seenAll(0) = NONE; seenAll(3) = NONE; told(1) = 4",
            "told(2) = 2");
        Script.about("promise 34: without numbers, without PEOPLE", EIGHT, "sheet(0, 8, 0); seenAll(0) = 0; told(1) = 0");
        Script.of("sheet(0, 8, 3); seenAll(0) = 0; seenAll(1) = NONE; count(4) = 0");
        Script.about("promise 34: as many numbers as PEOPLE, and more", EIGHT, "fill(0, 8, 1, 1, 1, 1, 1, 1, 1, 1); seenAll(0) = 8; fill(0, 8, 3, 3, 3, 3, 3, 3, 3, 3, 3, 3); seenAll(0) = 8; count(4) = 16");
        Script.of("person(0, -1); fill(0, 8, 1, 1); seenAll(0) = 1; count(4) = 1; told(1) = 0");
        Script.about("promise 34: fewer numbers than PEOPLE: the others stay", EIGHT, "fill(0, 8, 1, 1, 1, 1, 1, 1, 1, 1); seenAll(0); fill(0, 8, 7, 7); seenAll(0) = 2; count(4) = 12; sheet(0, 8, 1)",
            "seenAll(0) = 1; count(4) = 9");
    }

    private static void seenAllSets() {
        Script.about("promise 34: up to the first that is no set of PEOPLE", "person(0, -1); person(0, -1); person(0, -1); fill(0, 8, 7, 8, 7); seenAll(0) = 1; personIs(0, 4) = 7; personIs(1, 4) = 0",
            "personIs(2, 4) = 0; put(0, 1, 7); seenAll(0) = 3; put(0, 0, -1); put(0, 1, 0); seenAll(0) = 0; personIs(1, 4) = 7; told(1) = 0; told(5) = 0");
        Script.about("promise 34: a set of eight, and one beyond it", EIGHT, "fill(0, 16, 255, 256, 1); seenAll(0) = 1; personIs(0, 4) = 255; fill(0, 32, 0, MAX); seenAll(0) = 1; personIs(0, 4) = 0",
            "fill(0, 32, MIN, 1); seenAll(0) = 0; fill(0, 32, 255, 255, 255, 255, 255, 255, 255, 255); seenAll(0) = 8; count(4) = 64");
        Script.about("promise 34: of 8 bits at most 127", EIGHT, "fill(0, 8, 127, 128); seenAll(0) = 1; personIs(0, 4) = 127; fill(0, 8, 255); seenAll(0) = 0");
        Script.about("promise 34: one alone", "person(0, -1); fill(0, 8, 1); seenAll(0) = 1; personIs(0, 4) = 1; put(0, 0, 2); seenAll(0) = 0; put(0, 0, 0); seenAll(0) = 1; count(4) = 0");
    }

    private static void judge() {
        String some = "person(0, -1); person(0, 0); person(0, 1); person(0, -1); ";
        Script.about("promise 35: BEYOND, NONE", some, "judge(-1) = BEYOND; judge(4) = BEYOND; judge(MIN) = BEYOND; judge(MAX) = BEYOND; judge(0) = NONE; judge(3) = NONE; told(1) = 4; told(2) = 2");
        Script.about("promise 35: as many as PEOPLE, fewer, more", some, "fill(0, 8, -1, 0, 1, -1); judge(0) = 4; fill(0, 8, -1, 0, 1); judge(0) = 3; fill(0, 8, -1, 0, 1, -1, -1); judge(0) = 4",
            "sheet(0, 8, 0); judge(0) = 0; fill(0, 8, -1); judge(0) = 1");
        Script.about("promise 35: from the first on", some, "fill(0, 16, 0, 0, 1, -1); judge(0) = 0; fill(0, 16, -1, -1, 1, -1); judge(0) = 1; fill(0, 16, -1, 0, 0, -1); judge(0) = 2; fill(0, 16, -1, 0, 1, 0)",
            "judge(0) = 3; told(1) = 0");
        Script.about("promise 35: nobody is -1 alone", some, "fill(0, 32, 255, 0); judge(0) = 0; fill(0, 32, 65535, 0); judge(0) = 0; fill(0, 32, MIN); judge(0) = 0; fill(0, 32, -2); judge(0) = 0; fill(0, 32, -1, 0)",
            "judge(0) = 2");
        Script.about("promise 35: without PEOPLE", "sheet(0, 8, 3); judge(0) = 0; fill(0, 8, -1); judge(0) = 0; judge(1) = NONE");
        Script.about("promise 35: PARENTS now", some, "fill(0, 8, -1, 0, 1, 2); judge(0) = 3; descends(3, 2); judge(0) = 4; descends(1, -1); judge(0) = 1; marries(1, 0); judge(0) = 1");
    }
}
