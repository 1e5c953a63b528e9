// Promises 13 to 16 and Term 2: each boundary case that a sentence names, on the bound and one beyond it.
public final class TextsBoundsTest {
    private static final int MIN = Integer.MIN_VALUE;
    private static final int MAX = Integer.MAX_VALUE;

    public static void main(String[] args) {
        feed();
        tape();
        text();
        digits();
        open();
        names();
        faults();
        faultsOfEachRule();
        ends();
        oneComparison();
        wraps();
        quotients();
        truth();
        binds();
        held();
        untell();
        Due.close();
    }

    private static void feed() {
        Script.about("promise 13: 1 .. 8 bytes", "feed(0x76, 1) = 1; feed(0x76, 8) = 9; feed(0x76, 0) = BEYOND; feed(0x76, 9) = BEYOND",
            "feed(0x76, -1) = BEYOND; feed(0x76, MIN) = BEYOND; feed(0x76, MAX) = BEYOND; count(5) = 9; told(1) = 5; told(4) = 0");
        Script.about("promise 13: the lowest first", "feed(0x3132, 2) = 2; text(0) = 1; law(0, 0, 0, 0) = 21; feed(0x303030302B303131, 8) = 8",
            "text(0) = 1; law(0, 0, 0, 0) = 40; feed(0x2B32333435363738, 1) = 1; text(0) = 1; law(0, 0, 0, 0) = 8");
        Script.about("promise 13: the n lowest bytes alone", "feed(0x7676767676767633, 1) = 1; text(0) = 1; law(0, 9, 0, 0) = 3",
            "feed(0x7676767676763133, 2) = 2; text(0) = 1; law(0, 9, 0, 0) = 31; feed(0x3930303030303076, 7) = 7; text(0) = -11");
        Script.about("promise 13: the eighth byte of a word below 0", "feed(-1, 8) = 8; text(0) = -10; feed(-6091633659436717194, 8) = 8; text(0) = -17; feed(-6091633659436717194, 7) = 7; text(0) = 1");
        Script.about("promise 13: what is fed comes behind what is there", "feed('v'); feed('+'); feed('s'); count(5) = 3; text(0) = 1; law(0, 3, 4, 0) = 7");
    }

    private static void tape() {
        String of52 = "feed('1" + "+1".repeat(25) + "+')";
        Script.about("Term 2: 60 bytes at most", of52 + "; count(5) = 52; feed(0x312B312B312B312B, 8) = 60; feed(0x31, 1) = FULL; feed(0x31, 8) = FULL",
            "count(5) = 60; told(4) = 2");
        Script.about("promise 13: FULL though some of it had room", of52 + "; feed(0x31, 1) = 53; feed(0x31, 8) = FULL; count(5) = 53; feed(0x31, 7) = 60");
        Script.about("promise 13: BEYOND is asked ahead of FULL", of52 + "; feed(0x31, 8) = 60; feed(0x31, 0) = BEYOND; feed(0x31, 9) = BEYOND; told(4) = 0");
        Script.about("promise 13: 59 and 1, 59 and 2", of52 + "; feed(0x31, 7) = 59; feed(0x31, 2) = FULL; feed(0x31, 1) = 60; feed(0x31, 1) = FULL");
        Script.about("promise 14: THE TAPE is empty then, and there is room again", of52 + "; feed(0x312B312B312B312B, 8) = 60; text(0) = -62; count(5) = 0",
            "feed('v') = 1; text(1) = -10; count(5) = 0; feed('e') = 1; text(1) = 1; count(5) = 0");
    }

    private static void text() {
        Script.about("promise 14: a USE 0, 1", "feed('7') = 1; text(-1) = BEYOND; text(2) = BEYOND; text(MIN) = BEYOND; text(MAX) = BEYOND",
            "count(5) = 1; text(1) = 1; count(5) = 0; law(1, 0, 0, 0) = 7; law(0, 5, 0, 0) = 5; untell(0) = 0; untell(1) = 1");
        Script.about("promise 14: in place of one ahead, of that USE alone", "text(0, '7') = 1; text(1, '8') = 1; text(0, '9') = 1; law(0, 0, 0, 0) = 9",
            "law(1, 0, 0, 0) = 8; text(1, 'y') = 1; law(1, 1, 2, 3) = 2; law(0, 1, 2, 3) = 9");
        Script.about("promise 14: with a FAULT the one ahead stays, no ERROR", "text(0, '7') = 1; text(0, '8+') = -12; law(0, 0, 0, 0) = 7; text(0) = -10",
            "law(0, 0, 0, 0) = 7; text(1, '9)') = -11; law(1, 3, 0, 0) = 3; untell(1) = 0; untell(0) = 1; told(1) = 0; told(2) = 0; told(3) = 0");
        Due.about("promise 14: a FAULT empties THE TAPE and changes nothing else");
        String scene = "person(33, -1); person(44, 0); fill(0, 8, 1, 2); image(); tell(1); years(3); voice(1, 2, 3); text(0, 'v+3'); ";
        Twins.alike(scene + "text(0, 's+') = -12", scene);
        Twins.alike(scene + "text(1) = -10", scene);
    }

    private static void digits() {
        Script.about("Term 2: a NUMBER of 1 to 4 digits", "text(0, '0') = 1; law(0, 9, 9, 9) = 0; text(0, '07') = 1; law(0, 9, 9, 9) = 7",
            "text(0, '007') = 1; law(0, 9, 9, 9) = 7; text(0, '0040') = 1; law(0, 9, 9, 9) = 40; text(0, '00007') = -14; text(0, '12345') = -14",
            "text(0, '9999-9960') = 1; law(0, 9, 9, 9) = 39; text(0, '9999+00001') = -19; text(0, '999999999999') = -14; text(0, '1234v') = -14");
        Script.about("Term 2: nothing but digits", "text(0, '1.5') = -11; text(0, '0x1') = -11; text(0, '1e2') = -11; text(0, '1_0') = -11; text(0, '12 34') = -12");
        Script.about("Term 2: the signs next to the digits", "text(0, '/') = -10; text(0, ':') = -10; text(0, '1:') = -11; text(0, '1/2') = 1; text(0, '89') = 1");
    }

    private static void open() {
        Script.about("Term 2: five of ! open at once, not six", "text(0, '!!!!!v') = 1; law(0, 0, 0, 0) = 1; law(0, 5, 0, 0) = 0; text(0, '!!!!!!v') = -15",
            "text(0, '!!!!!') = -15; text(0, '!!!!!!') = -15; text(0, 's+!!!!!!v') = -17; law(0, 5, 0, 0) = 0");
        Script.about("Term 2: five of ( open at once, not six", "text(0, '(((((v)))))') = 1; law(0, 6, 0, 0) = 6; text(0, '((((((v))))))') = -15",
            "text(0, '(((((') = -15; text(0, '((((((') = -15; text(0, 's+((((((v))))))') = -17; text(0, '(((((v))))))') = -21");
        Script.about("Term 2: ! and ( together", "text(0, '!(!(!v))') = 1; text(0, '!(!(!(v)))') = -15; text(0, '(!(!(v)))') = 1; text(0, '(!(!(!v)))') = -15",
            "text(0, '((((!v))))') = 1; text(0, '((((!!v))))') = -15; text(0, '!!!!(v)') = 1; text(0, '!!!!((v))') = -15; text(0, '!!!!(!v)') = -15");
        Script.about("Term 2: what is closed is not open any more", "text(0, '(v)+(v)+(v)+(v)+(v)+(v)+(v)') = 1; law(0, 2, 0, 0) = 14",
            "text(0, '!v+!v+!v+!v+!v+!v+!v') = 1; law(0, 0, 0, 0) = 7; text(0, '!!!!!v+!!!!!s+(((((y)))))') = 1; text(0, '((((v)+(s))*(y)))') = 1",
            "text(0, '!(((!v+!s)*!!y))') = 1; text(0, '!(((!v+!s)*!!!y))') = -23; text(0, '!((((v))+((s))))') = 1; text(0, '!((((v))+(((s)))))') = -21");
        Script.about("Term 2: five are open at the second and at the last", "text(0, '(v+(v+(v+(v+(v)))))') = 1; law(0, 4, 0, 0) = 20",
            "text(0, '(v+(v+(v+(v+(v+(v))))))') = -25; text(0, '(((((v)+s)*2)))') = 1; text(0, '(((((v)+(s))*2)))') = 1; text(0, '(((((v)+((s)))*2)))') = -19");
    }

    private static void names() {
        Script.about("Term 2: NAMES v, s, y of VEILS", "text(0, 'v') = 1; law(0, 1, 2, 3) = 1; text(0, 's') = 1; law(0, 1, 2, 3) = 2; text(0, 'y') = 1",
            "law(0, 1, 2, 3) = 3; text(0, 'e') = -10; text(0, 'c') = -10; text(0, 'v+e') = -12; law(0, 1, 2, 3) = 3");
        Script.about("Term 2: NAMES e, y, c of SIGHT", "text(1, 'e') = 1; law(1, 1, 2, 3) = 1; text(1, 'y') = 1; law(1, 1, 2, 3) = 2; text(1, 'c') = 1",
            "law(1, 1, 2, 3) = 3; text(1, 'v') = -10; text(1, 's') = -10; text(1, 'c+v') = -12; law(1, 1, 2, 3) = 3");
        Script.about("Term 2: a NAME is one sign as it stands", "text(0, 'V') = -10; text(0, 'vv') = -11; text(0, 'v1') = -11; text(0, '1v') = -11; text(0, 'x') = -10");
        Script.about("Term 2: c is a tenth of CLOTH, cut", "person(0, -1); text(1, 'c'); trade(0, 0); personIs(0, 5) = 0; trade(0, 9); personIs(0, 5) = 0",
            "trade(0, 10); personIs(0, 5) = 1; trade(0, 19); personIs(0, 5) = 1; text(1, 'c-60'); trade(0, 999); personIs(0, 5) = 39; trade(0, 989)",
            "personIs(0, 5) = 38");
        Script.about("Term 2: e is how the KIND LOOKS, y the rest of YEAR by 8", "person(69, -1); text(1, 'e*4+y') = 1; personIs(0, 5) = 36; year(7)",
            "text(1, 'e-y') = 1; personIs(0, 5) = 2; year(8); personIs(0, 5) = 9; year(9999); personIs(0, 5) = 2; become(0, 60); personIs(0, 5) = 0");
    }

    private static void faults() {
        Script.about("FAULT: the first byte", "text(0, ')') = -10; text(0, '|v') = -10; text(0, '&v') = -10; text(0, '<v') = -10; text(0, '=v') = -10",
            "text(0, '>v') = -10; text(0, '+v') = -10; text(0, '-v') = -10; text(0, '*v') = -10; text(0, '/v') = -10; text(0, '%v') = -10");
        Script.about("FAULT: no blanks", "text(0, ' v') = -10; text(0, 'v ') = -11; text(0, 'v +s') = -11; text(0, 'v+ s') = -12; text(0, '( v)') = -11",
            "text(0, '(v )') = -12; text(0, '! v') = -11; text(0, 'v\t') = -11; text(0, 'v\n') = -11; text(0, '1 2') = -11");
        Script.about("FAULT: bytes of no sign", "text(0, 'v\0') = -11; text(0, '\0') = -10; text(0, '\u00ff') = -10; text(0, 'v\u0080') = -11",
            "text(0, 'v+\0') = -12; text(0, '(\0') = -11; text(0, '!\u00f6') = -11; text(0, 'v\u00ab1') = -11; text(0, '\u00b1') = -10");
        Script.about("FAULT: the first one, not a later one", "text(0, 'v)+)') = -11; text(0, 'v++(') = -12; text(0, '((v)') = -14; text(0, '1+2)*(') = -13");
        Script.about("FAULT: at the last of 60 bytes, and how many there are", "text(0, '1" + "+1".repeat(29) + "+') = -70",
            "text(0, '01" + "+1".repeat(29) + "') = 1; law(0, 0, 0, 0) = 30; text(0, '1" + "+1".repeat(29) + ")') = -69");
        Script.about("FAULT: at the first of 60 bytes", "text(0, ')1" + "+1".repeat(29) + "') = -10; text(0, '+1" + "+1".repeat(29) + "') = -10");
        Script.about("a TEXT of one byte, and of 60 that are all signs or NAMES", "text(0, 'v') = 1; text(0, 'v" + "*v".repeat(28) + "*!v') = 1; law(0, 1, 0, 0) = 0",
            "text(0, '!!!!!v" + "+v".repeat(27) + "') = 1; law(0, 0, 0, 0) = 1; text(1, '((((c" + "-c".repeat(25) + "))))%') = -70");
    }

    private static void faultsOfEachRule() {
        Script.about("FAULT: behind each sign that joins there is one more", "text(0, 'v|') = -12; text(0, 'v&') = -12; text(0, 'v<') = -12; text(0, 'v=') = -12",
            "text(0, 'v>') = -12; text(0, 'v+') = -12; text(0, 'v-') = -12; text(0, 'v*') = -12; text(0, 'v/') = -12; text(0, 'v%') = -12");
        Script.about("FAULT: two signs that join", "text(0, 'v||s') = -12; text(0, 'v&&s') = -12; text(0, 'v==s') = -12; text(0, 'v<=s') = -12; text(0, 'v>=s') = -12",
            "text(0, 'v<>s') = -12; text(0, 'v+-s') = -12; text(0, 'v--s') = -12; text(0, 'v**s') = -12; text(0, 'v*-s') = -12; text(0, 'v%%s') = -12");
        Script.about("FAULT: ! and ( behind what has ended", "text(0, 'v!') = -11; text(0, 'v!=s') = -11; text(0, 'v(s)') = -11; text(0, '(v)(s)') = -13",
            "text(0, '(v)s') = -13; text(0, '(v)!s') = -13; text(0, '7(v)') = -11; text(0, '!v!') = -12; text(0, '(v)7') = -13");
        Script.about("FAULT: ( ) without a TEXT", "text(0, '()') = -11; text(0, '(+') = -11; text(0, '!)') = -11; text(0, '!+') = -11; text(0, '(v))') = -13");
    }

    private static void ends() {
        Script.about("FAULT: how many there are, if it ends too early", "text(0) = -10; text(0, '!') = -11; text(0, '(') = -11; text(0, '(v') = -12",
            "text(0, '(v+') = -13; text(0, '(v+s') = -14; text(0, '((v)') = -14; text(0, '!(') = -12; text(0, '!!') = -12; text(0, '(12') = -13",
            "text(0, 'v|s&') = -14; text(0, 'v<s|') = -14; text(0, '(v<s') = -14; text(0, '!(!(v') = -15; text(0, '(((((v)') = -17");
    }

    private static void oneComparison() {
        Script.about("FAULT: S < S once", "text(0, '1<2<3') = -13; text(0, '1=2=3') = -13; text(0, '1>2>3') = -13; text(0, '1<2=3') = -13; text(0, '1=2>3') = -13",
            "text(0, '(1<2<3)') = -14; text(0, '!(1<2<3)') = -15; text(0, '1+1<2*1>3') = -17; text(0, '1<2|3<4=5') = -17; text(0, '1<2&3<4=5') = -17");
        Script.about("S < S within ( ), or on both sides of | and &", "text(0, '(1<2)<3') = 1; law(0, 0, 0, 0) = 1; text(0, '3>(2>1)') = 1; law(0, 0, 0, 0) = 1",
            "text(0, '1<2|3<4|5<6') = 1; law(0, 0, 0, 0) = 1; text(0, '1<2&3>4') = 1; law(0, 0, 0, 0) = 0; text(0, '!1<2') = 1; law(0, 0, 0, 0) = 1");
    }

    private static void gives(String text, int v, int s, int y, int due) {
        Script.of("text(0, '" + text + "') = 1; law(0, " + v + ", " + s + ", " + y + ") = " + due);
    }

    private static void wraps() {
        Due.about("Term 2: ints that wrap");
        gives("v+s=y", MAX, 1, MIN, 1);
        gives("v+s=y", MIN, -1, MAX, 1);
        gives("v+s=y", MIN, MIN, 0, 1);
        gives("v-s=y", MIN, 1, MAX, 1);
        gives("v-s=y", MAX, -1, MIN, 1);
        gives("v-s=y", 0, MIN, MIN, 1);
        gives("v*s=y", 65536, 65536, 0, 1);
        gives("v*s=y", MAX, 2, -2, 1);
        gives("v*s=y", MIN, -1, MIN, 1);
        gives("v*s=y", 46341, 46341, -2147479015, 1);
        gives("v/s=y", MIN, -1, MIN, 1);
        gives("v%s=y", MIN, -1, 0, 1);
        gives("9999*9999*99=y", 0, 0, (int) (9999L * 9999 * 99), 1);
        gives("v+s", MAX, MIN, 0, 0);
        gives("v+s", MAX, MIN + 6, 0, 5);
        gives("v<s", MIN, MAX, 0, 1);
        gives("v>s", MIN, MAX, 0, 0);
        gives("v-s<0", MIN, 1, 0, 0);
    }

    private static void quotients() {
        Due.about("Terms: quotients are cut toward 0, % is the rest that is left");
        gives("v/s=y", 7, 2, 3, 1);
        gives("v/s=y", -7, 2, -3, 1);
        gives("v/s=y", 7, -2, -3, 1);
        gives("v/s=y", -7, -2, 3, 1);
        gives("v/s=y", -1, 2, 0, 1);
        gives("v%s=y", 7, 2, 1, 1);
        gives("v%s=y", -7, 2, -1, 1);
        gives("v%s=y", 7, -2, 1, 1);
        gives("v%s=y", -7, -2, -1, 1);
        gives("v%s=y", 3, 7, 3, 1);
        Due.about("Term 2: by 0 both are 0");
        gives("v/s=y", 7, 0, 0, 1);
        gives("v%s=y", 7, 0, 0, 1);
        gives("v/s=y", MIN, 0, 0, 1);
        gives("v%s=y", MIN, 0, 0, 1);
        gives("v/s=y", 0, 0, 0, 1);
        gives("5+v/(s-s)+4", 7, 3, 0, 9);
        gives("5+v%(s-s)+4", 7, 3, 0, 9);
        Due.about("Term 2: from the left on");
        gives("v/s/y", 40, 4, 3, 3);
        gives("v/s*y", 7, 2, 3, 9);
        gives("v%s*y", 7, 4, 5, 15);
        gives("v*s%y", 7, 4, 5, 3);
        gives("v-s-y", 20, 7, 3, 10);
        gives("v-s+y", 20, 7, 3, 16);
    }

    private static void truth() {
        Due.about("Term 2: | & < = > ! are 1 or 0, what is not 0 being true");
        // 5 more, since what is held would hide a -1 in place of 0.
        int[] some = {0, 1, -1, 2, MIN, MAX};
        for (int a : some) {
            gives("5+!v", a, 0, 0, 5 + (a == 0 ? 1 : 0));
            gives("5+!!v", a, 0, 0, 5 + (a == 0 ? 0 : 1));
            for (int b : some) {
                gives("5+(v|s)", a, b, 0, 5 + (a != 0 || b != 0 ? 1 : 0));
                gives("5+(v&s)", a, b, 0, 5 + (a != 0 && b != 0 ? 1 : 0));
                gives("5+(v<s)", a, b, 0, 5 + (a < b ? 1 : 0));
                gives("5+(v=s)", a, b, 0, 5 + (a == b ? 1 : 0));
                gives("5+(v>s)", a, b, 0, 5 + (a > b ? 1 : 0));
            }
        }
        Due.about("Term 2: all is worked out");
        gives("1|v/0", 5, 0, 0, 1);
        gives("0&v/0", 5, 0, 0, 0);
        gives("v/0|1", 5, 0, 0, 1);
    }

    private static void binds() {
        Due.about("Term 2: a T within ( ), of any sign");
        for (String sign : new String[] {"|", "&", "<", "=", ">", "+", "-", "*", "/", "%"}) {
            Script.of("text(0, '(v" + sign + "s)') = 1; text(0, '!(v" + sign + "s)*(v" + sign + "s)') = 1; law(0, 9, 9, 0) = 0");
        }
        gives("(v|s)&y", 1, 0, 0, 0);
        gives("(v&s)<y", 1, 1, 2, 1);
        gives("(v<s)+y", 1, 2, 5, 6);
        gives("!(v|s)", 0, 0, 0, 1);
        Due.about("Term 2: what binds nearer");
        gives("v|s&y", 1, 0, 0, 1);
        gives("v&s|y", 0, 0, 1, 1);
        gives("v&s=y", 1, 3, 3, 1);
        gives("v=s&y", 3, 3, 5, 1);
        gives("v=s|y", 3, 4, 0, 0);
        gives("v<s+y", 3, 2, 2, 1);
        gives("v+s>y", 3, 2, 4, 1);
        gives("v+s*y", 1, 2, 3, 7);
        gives("v*s+y", 1, 2, 3, 5);
        gives("v-s/y", 9, 6, 3, 7);
        gives("!v*s", 0, 7, 0, 7);
        gives("!v=s", 0, 1, 0, 1);
        gives("!(v=s)", 0, 1, 0, 1);
        gives("(v+s)*y", 1, 2, 3, 9);
        gives("v-(s-y)", 9, 6, 3, 6);
        gives("v/(s/y)", 9, 6, 2, 3);
    }

    private static void held() {
        String[] texts = {"", "text(0, 'v'); text(1, 'e'); "};
        for (String ahead : texts) {
            for (int use = 0; use < 2; use++) {
                Script one = Script.about("Term 2: both are held within 0 .. 40, USE " + use + (ahead.isEmpty() ? " without a TEXT" : ""), ahead + "count(0)");
                one.asks("law(" + use + ", 0, 9, 9) = 0; law(" + use + ", -1, 9, 9) = 0; law(" + use + ", 1, 9, 9) = 1; law(" + use + ", 39, 9, 9) = 39");
                one.asks("law(" + use + ", 40, 9, 9) = 40; law(" + use + ", 41, 9, 9) = 40; law(" + use + ", MIN, 9, 9) = 0; law(" + use + ", MAX, 9, 9) = 40");
            }
        }
        Script.about("promise 16: a USE 0, 1", "law(-1, 1, 1, 1) = BEYOND; law(2, 1, 1, 1) = BEYOND; law(MIN, 1, 1, 1) = BEYOND; law(MAX, 1, 1, 1) = BEYOND");
        Script.about("promise 16: its NAMES are any number", "text(0, 's=y') = 1; law(0, 0, MIN, MIN) = 1; law(0, 0, MAX, MIN) = 0; law(0, 0, -5, -5) = 1",
            "text(1, 'y-c') = 1; law(1, 0, 1000039, 1000000) = 39; law(1, 0, -7, -27) = 20; law(1, 0, MAX, MAX) = 0");
    }

    private static void untell() {
        Script.about("promise 15: 1 if there was, else 0", "untell(0) = 0; untell(1) = 0; text(0, '5'); untell(1) = 0; untell(0) = 1; untell(0) = 0",
            "text(1, '6'); untell(0) = 0; law(1, 9, 0, 0) = 6; untell(1) = 1; law(1, 9, 0, 0) = 9; untell(1) = 0");
        Script.about("promise 15: a USE 0, 1", "text(0, '5'); text(1, '6'); untell(-1) = BEYOND; untell(2) = BEYOND; untell(MIN) = BEYOND; untell(MAX) = BEYOND",
            "law(0, 9, 0, 0) = 5; law(1, 9, 0, 0) = 6");
    }
}
