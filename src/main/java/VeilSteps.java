// Veils by the degree of kin: who lets down how many for whom, who sees through them,
// and what would come of marriages, orders and years. The promises stand in shared/DOC.md.
public final class VeilSteps {
    private static final int LOW = -1000000000;
    private static final int BEYOND = 1;
    private static final int NONE = 2;
    private static final int STATE = 3;
    private static final int FULL = 4;
    private static final int KIND = 5;
    private static final int PARTED = 6;

    private static final int MOST_PEOPLE = 8;
    private static final int MOST_KM = 69;
    private static final int FAR = 40;
    private static final int PLACES = 6;
    private static final int LAST_YEAR = 9999;
    private static final int MOST_CLOTH = 999;
    private static final int MOST_ORDER = 40;
    private static final int MOST_YEARS = 60;
    private static final int MOST_LOOSE = 30;
    private static final int MOST_ORDERED = 40;
    private static final int VEILS = 0;
    private static final int SIGHT = 1;
    private static final int USES = 2;
    private static final int MOST_TAPE = 60;
    private static final int MOST_WAITING = 24;
    private static final int SHEETS = 4;
    private static final int MOST_ON_SHEET = 24;

    private final World now;
    private final World kept;
    private final Course thought;
    private final Reader reader;
    private final Voices voices;
    private final Sheet[] sheets;
    private final int[] errors;
    private int images;

    public VeilSteps() {
        now = new World();
        kept = new World();
        thought = new Course();
        reader = new Reader(now.tape);
        voices = new Voices();
        sheets = new Sheet[SHEETS];
        for (int i = 0; i < SHEETS; i++) {
            sheets[i] = new Sheet();
        }
        errors = new int[PARTED + 1];
        images = 0;
    }

    // ---- people

    public int person(int km, int parent) {
        if (!isKm(km) || parent < -1 || parent >= now.kin.count) {
            return fail(BEYOND);
        }
        if (now.kin.count >= MOST_PEOPLE) {
            return fail(FULL);
        }
        return now.kin.add(km / 10, km % 10, parent);
    }

    public int personIs(int person, int what) {
        if (!now.kin.has(person)) {
            return fail(BEYOND);
        }
        switch (what) {
            case 0: return now.kin.kind[person];
            case 1: return now.kin.m[person];
            case 2: return now.kin.parent[person];
            case 3: return now.kin.spouse[person];
            case 4: return now.course.seen[person];
            case 5: return now.sightOf(person, now.course);
            default: return fail(BEYOND);
        }
    }

    public int become(int person, int km) {
        if (!now.kin.has(person) || !isKm(km)) {
            return fail(BEYOND);
        }
        int was = now.kin.kind[person];
        now.kin.kind[person] = km / 10;
        now.kin.m[person] = km % 10;
        return was;
    }

    public int as(int person, int kind) {
        if (!now.kin.has(person) || !Kinds.isKind(kind)) {
            return fail(BEYOND);
        }
        if (!Kinds.isUnder(now.kin.kind[person], kind)) {
            return fail(KIND);
        }
        return now.kin.m[person];
    }

    public int descends(int person, int parent) {
        if (!now.kin.has(person) || parent < -1 || parent >= person) {
            return fail(BEYOND);
        }
        int was = now.kin.parent[person];
        now.kin.giveParent(person, parent);
        return was;
    }

    public int marries(int one, int other) {
        if (!now.kin.has(one) || !now.kin.has(other) || one == other) {
            return fail(BEYOND);
        }
        if (!now.kin.isFree(one) || !now.kin.isFree(other)) {
            return fail(STATE);
        }
        now.kin.join(one, other);
        return now.kin.nearTo(one);
    }

    public int parts(int person) {
        if (!now.kin.has(person)) {
            return fail(BEYOND);
        }
        if (now.kin.isFree(person)) {
            return fail(NONE);
        }
        int was = now.kin.spouse[person];
        now.kin.part(person, was);
        return was;
    }

    public int steps(int one, int other) {
        if (!now.kin.has(one) || !now.kin.has(other)) {
            return fail(BEYOND);
        }
        return now.kin.between(one, other);
    }

    public int lets(int one, int other) {
        if (!now.kin.has(one) || !now.kin.has(other)) {
            return fail(BEYOND);
        }
        return now.veilsOf(one, other, now.course);
    }

    public int meets(int place, int one, int other) {
        if (place < 0 || place >= PLACES || !isNumber(one) || !isNumber(other)) {
            return fail(BEYOND);
        }
        int was = now.looker[place] * 10 + now.met[place];
        now.looker[place] = one;
        now.met[place] = other;
        return was;
    }

    public int trade(int what, int v) {
        if (what < 0 || what > 1 || v < 0 || v > (what == 0 ? MOST_CLOTH : MOST_ORDER)) {
            return fail(BEYOND);
        }
        int was = what == 0 ? now.course.cloth : now.course.order;
        if (what == 0) {
            now.course.cloth = v;
        } else {
            now.course.order = v;
        }
        return was;
    }

    // ---- texts

    public int feed(long word, int n) {
        if (n < 1 || n > 8) {
            return fail(BEYOND);
        }
        if (!now.tape.hasRoom(n)) {
            return fail(FULL);
        }
        for (int i = 0; i < n; i++) {
            now.tape.add((int) (word >>> (8 * i)) & 255);
        }
        return now.tape.size();
    }

    public int text(int use) {
        if (!isUse(use)) {
            return fail(BEYOND);
        }
        int fault = reader.faultFor(use);
        now.tape.clear();
        if (fault >= 0) {
            return -10 - fault;
        }
        now.texts[use].code.copy(reader.code);
        return 1;
    }

    public int untell(int use) {
        if (!isUse(use)) {
            return fail(BEYOND);
        }
        int was = now.texts[use].isGiven() ? 1 : 0;
        now.texts[use].code.clear();
        return was;
    }

    public int law(int use, int a, int b, int c) {
        if (!isUse(use)) {
            return fail(BEYOND);
        }
        return now.gives(use, a, b, c);
    }

    // ---- years

    public int years(int n) {
        if (n < 1 || n > MOST_YEARS) {
            return fail(BEYOND);
        }
        if (now.course.year + n > LAST_YEAR) {
            return fail(STATE);
        }
        now.passYears(now.course, n);
        return now.course.seenTogether();
    }

    public int loose(int n) {
        if (n < 1 || n > MOST_LOOSE) {
            return fail(BEYOND);
        }
        if (now.course.year + n > LAST_YEAR) {
            return fail(STATE);
        }
        for (int i = 0; i < n; i++) {
            now.drawMeeting();
            now.passYears(now.course, 1);
        }
        return now.course.seenTogether();
    }

    public int year(int v) {
        if (v < 0 || v > LAST_YEAR) {
            return fail(BEYOND);
        }
        int was = now.course.year;
        now.course.year = v;
        return was;
    }

    public int seed(int v) {
        int was = now.z;
        now.z = v;
        return was;
    }

    // ---- what would be

    public int then(int person, int n) {
        if (!now.kin.has(person) || n < 0 || n > MOST_YEARS) {
            return fail(BEYOND);
        }
        thought.copy(now.course);
        now.passYears(thought, n);
        return thought.seen[person];
    }

    public int soonest(int one, int other) {
        if (!now.kin.has(one) || !now.kin.has(other)) {
            return fail(BEYOND);
        }
        thought.copy(now.course);
        for (int n = 0; n <= MOST_YEARS; n++) {
            if (isIn(thought.seen[one], other)) {
                return n;
            }
            now.passYears(thought, 1);
        }
        return fail(NONE);
    }

    public int match(int one, int other, int what) {
        if (!now.kin.has(one) || !now.kin.has(other) || what < 0 || what > 1) {
            return fail(BEYOND);
        }
        int best = now.kin.bestMatch(one, other);
        if (best < 0) {
            return fail(NONE);
        }
        return what == 0 ? best % 100 : best / 100;
    }

    public int orderFor(int person, int n) {
        if (!now.kin.has(person) || n < 0 || n > MOST_ORDERED) {
            return fail(BEYOND);
        }
        int seers = now.course.seersOf(person);
        for (int order = 0; order <= MOST_ORDER; order++) {
            thought.copy(now.course);
            thought.order = order;
            now.passYears(thought, n);
            if (thought.seersOf(person) == seers) {
                return order;
            }
        }
        return fail(NONE);
    }

    public int seers(int person) {
        if (!now.kin.has(person)) {
            return fail(BEYOND);
        }
        return now.course.seersOf(person);
    }

    public int witnesses(int people) {
        if (!now.kin.isSet(people)) {
            return fail(BEYOND);
        }
        int best = -1;
        for (int set = 0; set < 1 << now.kin.count; set++) {
            boolean fewer = best < 0 || Integer.bitCount(set) < Integer.bitCount(best);
            if (fewer && (people & ~now.course.seenBy(set)) == 0) {
                best = set;
            }
        }
        return best < 0 ? fail(NONE) : best;
    }

    public int odds(int person, int part) {
        if (!now.kin.has(person) || part < 0 || part > 1) {
            return fail(BEYOND);
        }
        int others = now.kin.count - 1;
        if (others < 1) {
            return fail(STATE);
        }
        int seen = now.throughTo(person);
        int divisor = greatestDivisor(seen, others);
        return (part == 0 ? seen : others) / Math.max(divisor, 1);
    }

    public int fits(int sheet, int person, int what) {
        if (!isSheet(sheet) || !now.kin.has(person) || what < 0 || what > 1) {
            return fail(BEYOND);
        }
        if (sheets[sheet].isMissing()) {
            return fail(NONE);
        }
        int set = now.parentsFitting(sheets[sheet].row, person);
        return what == 0 ? set : Integer.bitCount(set);
    }

    // ---- voices, sheets, images, what is told

    public int voice(int person, int voice, int x) {
        if (!now.kin.has(person) || !Voices.isVoice(voice)) {
            return fail(BEYOND);
        }
        voices.begin(now.kin.kind[person], person, now.kin.m[person]);
        int answer = voices.speak(voice, x);
        return voices.parted ? fail(PARTED) : answer;
    }

    public int body(int i) {
        if (!voices.trace.stands(i)) {
            return fail(NONE);
        }
        return voices.trace.at(i);
    }

    public int sheet(int sheet, int bits, int n) {
        if (!isSheet(sheet) || !Sheet.areBits(bits)) {
            return fail(BEYOND);
        }
        if (bits != 0 && n < 0) {
            return fail(STATE);
        }
        if (bits != 0 && n > MOST_ON_SHEET) {
            return fail(BEYOND);
        }
        sheets[sheet].makeNew(bits, n);
        return 1;
    }

    public int put(int sheet, int i, int v) {
        if (!isSheet(sheet)) {
            return fail(BEYOND);
        }
        if (sheets[sheet].isMissing()) {
            return fail(NONE);
        }
        if (!sheets[sheet].row.stands(i)) {
            return fail(BEYOND);
        }
        sheets[sheet].write(i, v);
        return 1;
    }

    public int move(int sheet, int i, int other, int j, int n) {
        if (!isSheet(sheet) || !isSheet(other)) {
            return fail(BEYOND);
        }
        if (sheets[sheet].isMissing() || sheets[other].isMissing()) {
            return fail(NONE);
        }
        if (sheets[sheet].bits != sheets[other].bits) {
            return fail(KIND);
        }
        if (!sheets[sheet].row.stand(i, n) || !sheets[other].row.stand(j, n)) {
            return fail(BEYOND);
        }
        sheets[other].row.take(j, sheets[sheet].row, i, n);
        return n;
    }

    public int seenAll(int sheet) {
        if (!isSheet(sheet)) {
            return fail(BEYOND);
        }
        if (sheets[sheet].isMissing()) {
            return fail(NONE);
        }
        Row row = sheets[sheet].row;
        int taken = 0;
        while (taken < row.size() && now.kin.has(taken) && now.kin.isSet(row.at(taken))) {
            now.course.seen[taken] = row.at(taken);
            taken++;
        }
        return taken;
    }

    public int judge(int sheet) {
        if (!isSheet(sheet)) {
            return fail(BEYOND);
        }
        if (sheets[sheet].isMissing()) {
            return fail(NONE);
        }
        Row row = sheets[sheet].row;
        int right = 0;
        while (right < row.size() && now.kin.has(right) && row.at(right) == now.kin.parent[right]) {
            right++;
        }
        return right;
    }

    public int image() {
        kept.copy(now);
        images++;
        return images;
    }

    public int restore() {
        if (images == 0) {
            return fail(NONE);
        }
        now.copy(kept);
        return now.course.year;
    }

    public int tell(int v) {
        if (!now.waiting.hasRoom(1)) {
            return fail(FULL);
        }
        now.waiting.add(v);
        return now.waiting.size();
    }

    public int check() {
        int answer = 0;
        for (int i = 0; i < now.waiting.size() && answer == 0; i++) {
            if (!now.kin.has(i) || now.waiting.at(i) != now.sightOf(i, now.course)) {
                answer = 1 + i;
            }
        }
        now.waiting.clear();
        return answer;
    }

    public int count(int what) {
        switch (what) {
            case 0: return now.kin.count;
            case 1: return now.course.year;
            case 2: return now.course.cloth;
            case 3: return now.course.order;
            case 4: return now.course.seenTogether();
            case 5: return now.tape.size();
            case 6: return now.waiting.size();
            case 7: return voices.trace.size();
            case 8: return now.z;
            default: return fail(BEYOND);
        }
    }

    public int told(int k) {
        if (k < BEYOND || k > PARTED) {
            return fail(BEYOND);
        }
        return errors[k];
    }

    // Errors are counted here and not by their answers: "any number" may look like an error.
    private int fail(int k) {
        errors[k]++;
        return LOW - k;
    }

    private static boolean isKm(int km) {
        return km >= 0 && km <= MOST_KM;
    }

    private static boolean isNumber(int number) {
        return number >= 0 && number < MOST_PEOPLE;
    }

    private static boolean isUse(int use) {
        return use >= 0 && use < USES;
    }

    private static boolean isSheet(int sheet) {
        return sheet >= 0 && sheet < SHEETS;
    }

    private static boolean isIn(int set, int one) {
        return (set >> one & 1) != 0;
    }

    // Of 0 and a number the greatest is the number itself, so that 0 comes out as 0 by 1.
    private static int greatestDivisor(int above, int below) {
        for (int d = below; d > 1; d--) {
            if (above % d == 0 && below % d == 0) {
                return d;
            }
        }
        return 1;
    }

    // A row of numbers that is made once and never grows beyond its room.
    static final class Row {
        private final int[] numbers;
        private int length;

        Row(int most) {
            numbers = new int[Math.max(most, 0)];
            length = 0;
        }

        int size() {
            return length;
        }

        boolean hasRoom(int more) {
            return more <= numbers.length - length;
        }

        boolean stands(int i) {
            return i >= 0 && i < length;
        }

        // Asked by what is left behind i, since i + n could wrap.
        boolean stand(int i, int n) {
            return i >= 0 && n >= 0 && i <= length && n <= length - i;
        }

        int at(int i) {
            return i >= 0 && i < length ? numbers[i] : 0;
        }

        void write(int i, int v) {
            if (stands(i)) {
                numbers[i] = v;
            }
        }

        void add(int v) {
            if (length < numbers.length) {
                numbers[length] = v;
                length++;
            }
        }

        void clear() {
            length = 0;
        }

        void copy(Row other) {
            length = Math.min(other.length, numbers.length);
            System.arraycopy(other.numbers, 0, numbers, 0, length);
        }

        void take(int j, Row other, int i, int n) {
            if (stand(j, n) && other.stand(i, n)) {
                System.arraycopy(other.numbers, i, numbers, j, n);
            }
        }
    }

    // What a KIND is under, and what it lets down and looks through.
    static final class Kinds {
        private static final int WOMAN = 0;
        private static final int HEIRESS = 1;
        private static final int JUDGE = 2;
        private static final int BALE = 3;
        private static final int GOATHERD = 4;
        private static final int RING = 5;
        private static final int STRANGER = 6;
        private static final int[] ABOVE = {-1, WOMAN, WOMAN, WOMAN, HEIRESS, JUDGE, WOMAN};
        private static final int SEEN_BY_WOMAN = 2;
        private static final int JUDGE_SEES_MORE = 3;
        private static final int MOST_OF_RING = 4;
        private static final int NEAR_TO_STRANGER = 2;

        static boolean isKind(int kind) {
            return kind >= 0 && kind < ABOVE.length;
        }

        static int above(int kind) {
            return isKind(kind) ? ABOVE[kind] : -1;
        }

        static boolean isUnder(int kind, int upper) {
            int at = kind;
            for (int i = 0; i < ABOVE.length && at >= 0; i++) {
                if (at == upper) {
                    return true;
                }
                at = above(at);
            }
            return false;
        }

        static int letDown(int kind, int m, int steps) {
            switch (kind) {
                case HEIRESS: return steps / 2;
                case JUDGE: return judged(steps);
                case BALE: return steps * 2;
                case GOATHERD: return steps / 2 + m;
                case RING: return Math.min(judged(steps), MOST_OF_RING);
                case STRANGER: return steps > NEAR_TO_STRANGER ? FAR : steps + 1;
                default: return steps;
            }
        }

        private static int judged(int steps) {
            return steps % 2 == 0 ? steps : steps / 3;
        }

        static int lookThrough(int kind, int m, int near, int year) {
            switch (kind) {
                case HEIRESS: return SEEN_BY_WOMAN + near;
                case JUDGE: return SEEN_BY_WOMAN + JUDGE_SEES_MORE;
                case BALE: return SEEN_BY_WOMAN / 2;
                case GOATHERD: return SEEN_BY_WOMAN + near + m;
                case RING: return SEEN_BY_WOMAN + JUDGE_SEES_MORE + (year % 2 == 0 ? m : 0);
                case STRANGER: return m;
                default: return SEEN_BY_WOMAN;
            }
        }
    }

    // PEOPLE, and the STEPS between them, which are measured anew whenever kin changes.
    static final class Kin {
        private int count;
        private final int[] kind;
        private final int[] m;
        private final int[] parent;
        private final int[] spouse;
        private final int[] measured;

        Kin() {
            count = 0;
            kind = new int[MOST_PEOPLE];
            m = new int[MOST_PEOPLE];
            parent = new int[MOST_PEOPLE];
            spouse = new int[MOST_PEOPLE];
            measured = new int[MOST_PEOPLE * MOST_PEOPLE];
        }

        boolean has(int one) {
            return one >= 0 && one < count;
        }

        boolean isSet(int set) {
            return set >= 0 && set < 1 << count;
        }

        boolean isFree(int one) {
            return spouse[one] < 0;
        }

        int add(int itsKind, int itsM, int itsParent) {
            int one = count;
            kind[one] = itsKind;
            m[one] = itsM;
            parent[one] = itsParent;
            spouse[one] = -1;
            count++;
            measure();
            return one;
        }

        void giveParent(int one, int itsParent) {
            parent[one] = itsParent;
            measure();
        }

        void join(int one, int other) {
            spouse[one] = other;
            spouse[other] = one;
            measure();
        }

        void part(int one, int other) {
            spouse[one] = -1;
            spouse[other] = -1;
            measure();
        }

        int between(int one, int other) {
            return measured[one * MOST_PEOPLE + other];
        }

        int nearTo(int one) {
            int near = 0;
            for (int other = 0; other < count; other++) {
                if (between(one, other) == 1) {
                    near++;
                }
            }
            return near;
        }

        private void measure() {
            for (int one = 0; one < count; one++) {
                for (int other = 0; other < count; other++) {
                    measured[one * MOST_PEOPLE + other] = one == other ? 0 : FAR;
                }
            }
            for (int one = 0; one < count; one++) {
                link(one, parent[one]);
                link(one, spouse[one]);
            }
            for (int via = 0; via < count; via++) {
                for (int one = 0; one < count; one++) {
                    shortenBy(via, one);
                }
            }
        }

        private void link(int one, int other) {
            if (has(other)) {
                measured[one * MOST_PEOPLE + other] = 1;
                measured[other * MOST_PEOPLE + one] = 1;
            }
        }

        // FAR and anything is no fewer than FAR, so that no way is taken where there is none.
        private void shortenBy(int via, int one) {
            for (int other = 0; other < count; other++) {
                int by = between(one, via) + between(via, other);
                int at = one * MOST_PEOPLE + other;
                measured[at] = Math.min(measured[at], by);
            }
        }

        // 100 times the STEPS, 10 times the lesser number, and the greater: the least of these
        // is the MATCH, and -1 says that there is none.
        int bestMatch(int one, int other) {
            int asItIs = between(one, other) * 100;
            int best = asItIs;
            for (int a = 0; a < count; a++) {
                for (int b = a + 1; b < count; b++) {
                    if (isFree(a) && isFree(b)) {
                        best = Math.min(best, byMarriage(one, other, a, b) * 100 + a * 10 + b);
                    }
                }
            }
            return best < asItIs ? best : -1;
        }

        // A fewest way takes the new STEP once at the most, in the one direction or the other.
        private int byMarriage(int one, int other, int a, int b) {
            int there = between(one, a) + 1 + between(b, other);
            int back = between(one, b) + 1 + between(a, other);
            return Math.min(between(one, other), Math.min(there, back));
        }

        void copy(Kin other) {
            count = other.count;
            System.arraycopy(other.kind, 0, kind, 0, MOST_PEOPLE);
            System.arraycopy(other.m, 0, m, 0, MOST_PEOPLE);
            System.arraycopy(other.parent, 0, parent, 0, MOST_PEOPLE);
            System.arraycopy(other.spouse, 0, spouse, 0, MOST_PEOPLE);
            System.arraycopy(other.measured, 0, measured, 0, measured.length);
        }
    }

    // What YEARS change; a second one of these is what is only thought.
    static final class Course {
        private int year;
        private int cloth;
        private int order;
        private final int[] seen;

        Course() {
            year = 0;
            cloth = 100;
            order = 5;
            seen = new int[MOST_PEOPLE];
        }

        int seenTogether() {
            int sum = 0;
            for (int one = 0; one < MOST_PEOPLE; one++) {
                sum += Integer.bitCount(seen[one]);
            }
            return sum;
        }

        int seenBy(int set) {
            int all = 0;
            for (int one = 0; one < MOST_PEOPLE; one++) {
                if (isIn(set, one)) {
                    all |= seen[one];
                }
            }
            return all;
        }

        int seersOf(int person) {
            int set = 0;
            for (int one = 0; one < MOST_PEOPLE; one++) {
                if (isIn(seen[one], person)) {
                    set |= 1 << one;
                }
            }
            return set;
        }

        void copy(Course other) {
            year = other.year;
            cloth = other.cloth;
            order = other.order;
            System.arraycopy(other.seen, 0, seen, 0, MOST_PEOPLE);
        }
    }

    // All that an IMAGE keeps.
    static final class World {
        private final Kin kin;
        private final Course course;
        private final int[] looker;
        private final int[] met;
        private final Text[] texts;
        private final Row tape;
        private final Row waiting;
        private int z;

        World() {
            kin = new Kin();
            course = new Course();
            looker = new int[PLACES];
            met = new int[PLACES];
            for (int place = 0; place < PLACES; place++) {
                met[place] = 1;
            }
            texts = new Text[USES];
            for (int use = 0; use < USES; use++) {
                texts[use] = new Text();
            }
            tape = new Row(MOST_TAPE);
            waiting = new Row(MOST_WAITING);
            z = 1;
        }

        int gives(int use, int a, int b, int c) {
            int given = texts[use].isGiven() ? texts[use].worked(a, b, c) : a;
            return Math.max(0, Math.min(given, FAR));
        }

        int veilsOf(int one, int other, Course at) {
            int steps = kin.between(one, other);
            int v = Kinds.letDown(kin.kind[one], kin.m[one], steps);
            return gives(VEILS, v, steps, at.year % 8);
        }

        int sightOf(int one, Course at) {
            int e = Kinds.lookThrough(kin.kind[one], kin.m[one], kin.nearTo(one), at.year);
            return gives(SIGHT, e, at.year % 8, at.cloth / 10);
        }

        void passYears(Course by, int n) {
            for (int i = 0; i < n; i++) {
                int place = placeOf(by.year);
                passYear(by, looker[place], met[place]);
            }
        }

        private void passYear(Course by, int looks, int isMet) {
            if (looks != isMet && kin.has(looks) && kin.has(isMet)) {
                int worn = Math.min(veilsOf(isMet, looks, by), by.cloth);
                if (worn <= sightOf(looks, by)) {
                    by.seen[looks] |= 1 << isMet;
                }
                by.cloth -= worn;
            }
            by.cloth = Math.min(by.cloth + by.order, MOST_CLOTH);
            by.year++;
        }

        // What is drawn stays in its place, as if it had been told by hand.
        void drawMeeting() {
            int place = placeOf(course.year);
            looker[place] = draw() % MOST_PEOPLE;
            met[place] = draw() % MOST_PEOPLE;
        }

        private int draw() {
            z = z * 1103515245 + 12345;
            return z >>> 8;
        }

        private static int placeOf(int year) {
            return Math.floorMod(year, PLACES);
        }

        int throughTo(int person) {
            int sight = sightOf(person, course);
            int through = 0;
            for (int other = 0; other < kin.count; other++) {
                if (other != person && veilsOf(other, person, course) <= sight) {
                    through++;
                }
            }
            return through;
        }

        int parentsFitting(Row veils, int person) {
            int set = 0;
            int was = kin.parent[person];
            for (int parent = 0; parent < person; parent++) {
                kin.giveParent(person, parent);
                if (wouldLet(person, veils)) {
                    set |= 1 << parent;
                }
            }
            kin.giveParent(person, was);
            return set;
        }

        private boolean wouldLet(int person, Row veils) {
            for (int i = 0; i < veils.size(); i++) {
                if (!kin.has(i) || veilsOf(person, i, course) != veils.at(i)) {
                    return false;
                }
            }
            return true;
        }

        void copy(World other) {
            kin.copy(other.kin);
            course.copy(other.course);
            System.arraycopy(other.looker, 0, looker, 0, PLACES);
            System.arraycopy(other.met, 0, met, 0, PLACES);
            for (int use = 0; use < USES; use++) {
                texts[use].code.copy(other.texts[use].code);
            }
            tape.copy(other.tape);
            waiting.copy(other.waiting);
            z = other.z;
        }
    }

    // A TEXT as a row of steps for a pile: a number, -1 less the place of a NAME,
    // or SIGN and the sign that joins what lies on top. There is no TEXT while the row is empty.
    static final class Text {
        private static final int SIGN = 10000;
        private final Row code;
        private final int[] pile;

        Text() {
            code = new Row(MOST_TAPE);
            pile = new int[MOST_TAPE];
        }

        boolean isGiven() {
            return code.size() > 0;
        }

        int worked(int a, int b, int c) {
            int high = 0;
            for (int i = 0; i < code.size(); i++) {
                int step = code.at(i);
                if (step == SIGN + '!') {
                    if (high >= 1) {
                        pile[high - 1] = pile[high - 1] == 0 ? 1 : 0;
                    }
                } else if (step >= SIGN) {
                    if (high >= 2) {
                        pile[high - 2] = joined(step - SIGN, pile[high - 2], pile[high - 1]);
                        high--;
                    }
                } else if (high < pile.length) {
                    pile[high] = step >= 0 ? step : named(-1 - step, a, b, c);
                    high++;
                }
            }
            return pile[0];
        }

        private static int named(int place, int a, int b, int c) {
            return place == 0 ? a : place == 1 ? b : c;
        }

        private static int joined(int sign, int a, int b) {
            switch (sign) {
                case '|': return a != 0 || b != 0 ? 1 : 0;
                case '&': return a != 0 && b != 0 ? 1 : 0;
                case '<': return a < b ? 1 : 0;
                case '=': return a == b ? 1 : 0;
                case '>': return a > b ? 1 : 0;
                case '+': return a + b;
                case '-': return a - b;
                case '*': return a * b;
                case '/': return b == 0 ? 0 : a / b;
                case '%': return b == 0 ? 0 : a % b;
                default: return 0;
            }
        }
    }

    // Reads THE TAPE by one byte ahead: it never goes beyond a byte with which no TEXT goes on,
    // so that where it stops is the FAULT.
    static final class Reader {
        private static final String NAMES_OF_VEILS = "vsy";
        private static final String NAMES_OF_SIGHT = "eyc";
        private static final int COMPARISONS = 2;
        private static final int UNITS = 5;
        private static final int MOST_OPEN = 5;
        private static final int MOST_DIGITS = 4;
        private final Row tape;
        private final Row code;
        private String names;
        private int at;

        Reader(Row tape) {
            this.tape = tape;
            code = new Row(MOST_TAPE);
            names = NAMES_OF_VEILS;
            at = 0;
        }

        int faultFor(int use) {
            names = use == VEILS ? NAMES_OF_VEILS : NAMES_OF_SIGHT;
            at = 0;
            code.clear();
            boolean whole = readsLevel(0, 0) && at == tape.size();
            return whole ? -1 : at;
        }

        private boolean readsLevel(int level, int open) {
            if (open > MOST_OPEN) {
                return false;
            }
            if (level >= UNITS) {
                return readsUnit(open);
            }
            if (!readsLevel(level + 1, open)) {
                return false;
            }
            while (at < tape.size() && levelOf(tape.at(at)) == level) {
                int sign = tape.at(at);
                at++;
                if (!readsLevel(level + 1, open)) {
                    return false;
                }
                code.add(Text.SIGN + sign);
                if (level == COMPARISONS) {
                    return true;
                }
            }
            return true;
        }

        // Beyond the last byte the tape gives 0, with which nothing goes on either.
        private boolean readsUnit(int open) {
            int sign = tape.at(at);
            if (isDigit(sign)) {
                readNumber();
                return true;
            }
            int name = names.indexOf((char) sign);
            if (name >= 0) {
                at++;
                code.add(-1 - name);
                return true;
            }
            if (open >= MOST_OPEN || (sign != '!' && sign != '(')) {
                return false;
            }
            at++;
            return sign == '!' ? readsDenied(open + 1) : readsClosed(open + 1);
        }

        private boolean readsDenied(int open) {
            if (!readsUnit(open)) {
                return false;
            }
            code.add(Text.SIGN + '!');
            return true;
        }

        private boolean readsClosed(int open) {
            if (!readsLevel(0, open) || tape.at(at) != ')') {
                return false;
            }
            at++;
            return true;
        }

        private void readNumber() {
            int number = 0;
            for (int i = 0; i < MOST_DIGITS && isDigit(tape.at(at)); i++) {
                number = number * 10 + (tape.at(at) - '0');
                at++;
            }
            code.add(number);
        }

        private static boolean isDigit(int sign) {
            return sign >= '0' && sign <= '9';
        }

        private static int levelOf(int sign) {
            switch (sign) {
                case '|': return 0;
                case '&': return 1;
                case '<': case '=': case '>': return COMPARISONS;
                case '+': case '-': return 3;
                case '*': case '/': case '%': return 4;
                default: return -1;
            }
        }
    }

    // VOICES of one of PEOPLE, and THE TRACE of the latest.
    static final class Voices {
        private static final int LOWERS = 0;
        private static final int LIFTS = 1;
        private static final int LOOKS = 2;
        private static final int PARTS = 3;
        private static final int VOICES = 4;
        private static final int MOST_TRACED = 30;
        private static final int MOST_DEEP = 40;
        // By KIND and VOICE, 0 where the KIND has no BODY of its own.
        private static final int[] BODIES = {
            10, 11, 12, 13,
            20, 0, 0, 21,
            0, 30, 0, 0,
            0, 0, 40, 0,
            50, 0, 51, 0,
            0, 60, 0, 0,
            70, 71, 0, 0,
        };
        private final Row trace;
        private int kind;
        private int k;
        private int m;
        private boolean parted;

        Voices() {
            trace = new Row(MOST_TRACED);
            kind = 0;
            k = 0;
            m = 0;
            parted = false;
        }

        static boolean isVoice(int voice) {
            return voice >= 0 && voice < VOICES;
        }

        void begin(int itsKind, int itsNumber, int itsM) {
            kind = itsKind;
            k = itsNumber;
            m = itsM;
            parted = false;
            trace.clear();
        }

        int speak(int voice, int x) {
            return spoken(kind, voice, x, 0);
        }

        // The BODY of a KIND, or of the next above that has one.
        private int spoken(int from, int voice, int x, int deep) {
            int at = from;
            for (int i = 0; i < MOST_DEEP && Kinds.isKind(at); i++) {
                int body = BODIES[at * VOICES + voice];
                if (body != 0) {
                    trace.add(body);
                    return deep < MOST_DEEP ? worked(body, at, x, deep + 1) : 0;
                }
                at = Kinds.above(at);
            }
            return 0;
        }

        private int own(int voice, int x, int deep) {
            return spoken(kind, voice, x, deep);
        }

        private int worked(int body, int of, int x, int deep) {
            int up = Kinds.above(of);
            switch (body) {
                case 10: return x + k;
                case 11: return own(LOWERS, x, deep) * 2;
                case 12: return own(LIFTS, x, deep) - m;
                case 13: return partsBy(x, m - k);
                case 20: return spoken(up, LOWERS, x, deep) - 4;
                case 21: return heiressParts(up, x, deep);
                case 30: return 0 - spoken(up, LIFTS, x, deep);
                case 40: return spoken(up, LOOKS, x / 2, deep);
                case 50: return spoken(up, LOWERS, x, deep) * 3;
                case 51: return spoken(up, LOOKS, x, deep) ^ k;
                case 60: return spoken(up, LIFTS, x + 1, deep);
                case 70: return 9;
                case 71: return spoken(up, LIFTS, x, deep) + m;
                default: return 0;
            }
        }

        private int partsBy(int x, int by) {
            if (by == 0) {
                parted = true;
                return 0;
            }
            return x / by;
        }

        // What has parted answers at once: no BODY begins behind it.
        private int heiressParts(int up, int x, int deep) {
            int left = spoken(up, PARTS, x, deep);
            return parted ? 0 : left + own(LIFTS, 1, deep);
        }
    }

    // A row of numbers of 8, 16 or 32 bits, with their sign; of 0 bits while it is missing.
    static final class Sheet {
        private final Row row;
        private int bits;

        Sheet() {
            row = new Row(MOST_ON_SHEET);
            bits = 0;
        }

        static boolean areBits(int bits) {
            return bits == 0 || bits == 8 || bits == 16 || bits == 32;
        }

        boolean isMissing() {
            return bits == 0;
        }

        void makeNew(int itsBits, int n) {
            bits = itsBits;
            row.clear();
            for (int i = 0; i < n && i < MOST_ON_SHEET && bits != 0; i++) {
                row.add(0);
            }
        }

        void write(int i, int v) {
            row.write(i, bits == 8 ? (byte) v : bits == 16 ? (short) v : v);
        }
    }
}
