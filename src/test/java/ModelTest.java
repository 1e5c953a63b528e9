import java.util.ArrayList;
import java.util.HashSet;
import java.util.List;
import java.util.Random;
import java.util.Set;
import java.util.TreeSet;

// All promises but FAULT's: runs of chosen calls, each answered by VeilSteps and by the Model.
public final class ModelTest {
    private static final int RUNS = 300;
    private static final int CALLS = 500;
    private static final String[] NAMES = {
        "person", "personIs", "become", "as", "descends", "marries", "parts", "steps", "lets", "meets", "trade",
        "feed", "text", "untell", "law", "years", "loose", "year", "seed", "then", "soonest", "match", "orderFor",
        "seers", "witnesses", "odds", "fits", "voice", "body", "sheet", "put", "move", "seenAll", "judge", "image",
        "restore", "tell", "check", "count", "told",
    };

    private static final String[][] TEXTS = {
        {"v", "s", "v+1", "v-y", "s*2", "3", "v/2", "!s", "v%3+y", "s<3", "v+s*y"},
        {"e", "c", "e+y", "e*2", "y", "e-c", "39", "e+c/5", "!y*9", "c>4", "e+1"},
    };

    // The same as TEXTS, worked by hand.
    private static Model.Law law(int use, int i) {
        Model.Law[][] laws = {
            {
                (v, s, y) -> v, (v, s, y) -> s, (v, s, y) -> v + 1, (v, s, y) -> v - y, (v, s, y) -> s * 2, (v, s, y) -> 3,
                (v, s, y) -> v / 2, (v, s, y) -> s == 0 ? 1 : 0, (v, s, y) -> v % 3 + y, (v, s, y) -> s < 3 ? 1 : 0,
                (v, s, y) -> v + s * y,
            },
            {
                (e, y, c) -> e, (e, y, c) -> c, (e, y, c) -> e + y, (e, y, c) -> e * 2, (e, y, c) -> y, (e, y, c) -> e - c,
                (e, y, c) -> 39, (e, y, c) -> e + c / 5, (e, y, c) -> y == 0 ? 9 : 0, (e, y, c) -> c > 4 ? 1 : 0,
                (e, y, c) -> e + 1,
            },
        };
        return laws[use][i];
    }

    public static void main(String[] args) {
        for (int run = 0; run < RUNS && Due.wrong() == 0; run++) {
            new ModelTest(run).runs();
        }
        Due.close();
    }

    private final Random random;
    private final VeilSteps x = new VeilSteps();
    private final Model model = new Model();
    private final int most;

    private ModelTest(int run) {
        random = new Random(run * 7919L + 13);
        most = 1 + random.nextInt(8);
        Due.about("run " + run);
    }

    private int under(int n) {
        return random.nextInt(n);
    }

    // Mostly one of what there is, at times the one ahead of it or behind it, or a far one.
    private int near(int n) {
        int pick = under(40);
        return pick == 0 ? -1 : pick == 1 ? n : pick == 2 ? random.nextInt() : under(Math.max(1, n));
    }

    private int one() {
        return near(model.people.size());
    }

    private void runs() {
        for (int i = under(6); i > 0; i--) {
            asked("person", new int[] {under(70), under(3) == 0 ? -1 : one()});
        }
        for (int i = 0; i < CALLS && Due.wrong() == 0; i++) {
            String name = NAMES[under(NAMES.length)];
            asked(name, chosen(name));
        }
    }

    private int[] chosen(String name) {
        switch (name) {
            case "person": return new int[] {model.people.size() < most || under(9) == 0 ? near(70) : -1, under(4) == 0 ? -1 : one()};
            case "personIs": return new int[] {one(), near(6)};
            case "become": return new int[] {one(), near(70)};
            case "as": return new int[] {one(), near(7)};
            case "descends": return new int[] {one(), under(4) == 0 ? -1 : one()};
            case "meets": return new int[] {near(6), one(), one()};
            case "trade": return under(2) == 0 ? new int[] {0, near(under(3) == 0 ? 1000 : 90)} : new int[] {near(2), near(41)};
            case "feed": return new int[] {near(2), near(11)};
            case "law": return new int[] {near(2), near(50), near(50), near(50)};
            case "years": return new int[] {under(2) == 0 ? 1 + under(4) : near(61)};
            case "loose": return new int[] {under(2) == 0 ? 1 + under(4) : near(31)};
            case "year": return new int[] {under(4) == 0 ? 9999 - under(70) : near(10000)};
            case "then": return new int[] {one(), near(61)};
            case "match": return new int[] {one(), one(), near(2)};
            case "orderFor": return new int[] {one(), under(2) == 0 ? under(9) : near(41)};
            case "witnesses": return new int[] {near(1 << model.people.size())};
            case "odds": return new int[] {one(), near(2)};
            case "fits": return new int[] {near(4), one(), near(2)};
            case "voice": return new int[] {one(), near(4), under(3) == 0 ? random.nextInt() : under(50) - 25};
            case "sheet": return new int[] {near(4), new int[] {0, 8, 8, 16, 32, 32, 7}[under(7)], under(6) == 0 ? near(25) : under(7)};
            case "put": return new int[] {near(4), near(6), under(5) == 0 ? random.nextInt() : under(3) == 0 ? under(256) - 1 : under(10) - 1};
            case "move": return new int[] {near(4), near(4), near(4), near(4), near(4)};
            case "image": return under(4) == 0 ? new int[] {} : null;
            case "restore": return under(3) == 0 ? new int[] {} : null;
            case "tell": return new int[] {under(3) == 0 || model.people.isEmpty() || model.waiting.size() >= model.people.size()
                ? under(12) : model.sight(model.waiting.size())};
            case "check": return new int[] {};
            case "count": return new int[] {near(9)};
            case "told": return new int[] {near(7)};
            case "seed": return new int[] {random.nextInt()};
            case "body": return new int[] {near(7)};
            case "untell": case "text": return new int[] {under(3) == 0 ? near(2) : -3};
            case "seenAll": case "judge": return new int[] {near(4)};
            default: return new int[] {one(), one()};
        }
    }

    private void asked(String name, int[] a) {
        if (a == null || (a.length > 0 && a[0] == -3)) {
            return;
        }
        StringBuilder call = new StringBuilder(name);
        for (int i = 0; i < a.length; i++) {
            call.append(i == 0 ? "(" : ", ").append(a[i]);
        }
        int want;
        try {
            want = due(name, a);
        } catch (Model.Fail fail) {
            model.errors[fail.k]++;
            want = -1000000000 - fail.k;
        }
        Due.is(call.append(")").toString(), got(name, a), want);
    }

    private long word(int[] a) {
        String text = TEXTS[a[0] & 1][Math.floorMod(a[1], 11)];
        long word = 0;
        for (int i = text.length() - 1; i >= 0; i--) {
            word = word << 8 | text.charAt(i);
        }
        return word;
    }

    private int bytes(int[] a) {
        return a[1] < 0 || a[1] > 10 ? a[1] : TEXTS[a[0] & 1][a[1]].length();
    }

    private int got(String name, int[] a) {
        switch (name) {
            case "person": return x.person(a[0], a[1]);
            case "personIs": return x.personIs(a[0], a[1]);
            case "become": return x.become(a[0], a[1]);
            case "as": return x.as(a[0], a[1]);
            case "descends": return x.descends(a[0], a[1]);
            case "marries": return x.marries(a[0], a[1]);
            case "parts": return x.parts(a[0]);
            case "steps": return x.steps(a[0], a[1]);
            case "lets": return x.lets(a[0], a[1]);
            case "meets": return x.meets(a[0], a[1], a[2]);
            case "trade": return x.trade(a[0], a[1]);
            case "feed": return x.feed(word(a), bytes(a));
            case "text": return x.text(a[0]);
            case "untell": return x.untell(a[0]);
            case "law": return x.law(a[0], a[1], a[2], a[3]);
            case "years": return x.years(a[0]);
            case "loose": return x.loose(a[0]);
            case "year": return x.year(a[0]);
            case "seed": return x.seed(a[0]);
            default: return gotMore(name, a);
        }
    }

    private int gotMore(String name, int[] a) {
        switch (name) {
            case "then": return x.then(a[0], a[1]);
            case "soonest": return x.soonest(a[0], a[1]);
            case "match": return x.match(a[0], a[1], a[2]);
            case "orderFor": return x.orderFor(a[0], a[1]);
            case "seers": return x.seers(a[0]);
            case "witnesses": return x.witnesses(a[0]);
            case "odds": return x.odds(a[0], a[1]);
            case "fits": return x.fits(a[0], a[1], a[2]);
            case "voice": return x.voice(a[0], a[1], a[2]);
            case "body": return x.body(a[0]);
            case "sheet": return x.sheet(a[0], a[1], a[2]);
            case "put": return x.put(a[0], a[1], a[2]);
            case "move": return x.move(a[0], a[1], a[2], a[3], a[4]);
            case "seenAll": return x.seenAll(a[0]);
            case "judge": return x.judge(a[0]);
            case "image": return x.image();
            case "restore": return x.restore();
            case "tell": return x.tell(a[0]);
            case "check": return x.check();
            case "count": return x.count(a[0]);
            default: return x.told(a[0]);
        }
    }

    private int due(String name, int[] a) {
        switch (name) {
            case "person": return person(a[0], a[1]);
            case "personIs": return personIs(a[0], a[1]);
            case "become": return become(a[0], a[1]);
            case "as": return as(a[0], a[1]);
            case "descends": return descends(a[0], a[1]);
            case "marries": return marries(a[0], a[1]);
            case "parts": return parts(a[0]);
            case "steps": people(a[0], a[1]); return model.walk(a[0], a[1]);
            case "lets": people(a[0], a[1]); return model.veils(a[0], a[1]);
            case "meets": return meets(a[0], a[1], a[2]);
            case "trade": return trade(a[0], a[1]);
            case "feed": return feed(word(a), bytes(a));
            case "text": return text(a[0]);
            case "untell": return untell(a[0]);
            case "law": in(a[0], 0, 1); return model.given(a[0], a[1], a[2], a[3]);
            case "years": case "loose": return years(a[0], name.equals("loose"));
            case "year": in(a[0], 0, 9999); return swapYear(a[0]);
            case "seed": return seed(a[0]);
            default: return dueMore(name, a);
        }
    }

    private int dueMore(String name, int[] a) {
        switch (name) {
            case "then": people(a[0], a[0]); in(a[1], 0, 60); return Model.bits(model.on(a[1]).seen.get(a[0]));
            case "soonest": return soonest(a[0], a[1]);
            case "match": return match(a[0], a[1], a[2]);
            case "orderFor": return orderFor(a[0], a[1]);
            case "seers": people(a[0], a[0]); return Model.bits(model.whoSaw(a[0]));
            case "witnesses": return witnesses(a[0]);
            case "odds": return odds(a[0], a[1]);
            case "fits": return fits(a[0], a[1], a[2]);
            case "voice": return voice(a[0], a[1], a[2]);
            case "body": Model.need(a[0] >= 0 && a[0] < model.trace.size(), 2); return model.trace.get(a[0]);
            case "sheet": return sheet(a[0], a[1], a[2]);
            case "put": return put(a[0], a[1], a[2]);
            case "move": return move(a[0], a[1], a[2], a[3], a[4]);
            case "seenAll": return seenAll(a[0]);
            case "judge": return judge(a[0]);
            case "image": model.image = model.kept(); return ++model.images;
            case "restore": return restore();
            case "tell": Model.need(model.waiting.size() < 24, 4); model.waiting.add(a[0]); return model.waiting.size();
            case "check": return check();
            case "count": return count(a[0]);
            default: in(a[0], 1, 6); return model.errors[a[0]];
        }
    }

    private static void in(int v, int least, int most) {
        Model.need(v >= least && v <= most, 1);
    }

    private void people(int one, int other) {
        Model.need(model.is(one) && model.is(other), 1);
    }

    private int person(int km, int parent) {
        in(km, 0, 69);
        in(parent, -1, model.people.size() - 1);
        int k = model.people.size();
        Model.need(k < 8, 4);
        model.people.add(Model.made(model, k, km));
        model.seen.add(new TreeSet<>());
        if (parent >= 0) {
            model.parents.put(k, parent);
        }
        return k;
    }

    private int personIs(int one, int what) {
        people(one, one);
        in(what, 0, 5);
        Model.Woman woman = model.people.get(one);
        int[] all = {
            woman.km / 10, woman.m, model.parents.getOrDefault(one, -1), model.spouses.getOrDefault(one, -1),
            Model.bits(model.seen.get(one)), model.sight(one),
        };
        return all[what];
    }

    private int become(int one, int km) {
        people(one, one);
        in(km, 0, 69);
        int was = model.people.get(one).km / 10;
        model.people.set(one, Model.made(model, one, km));
        return was;
    }

    private int as(int one, int kind) {
        people(one, one);
        in(kind, 0, 6);
        Class<?> is = Model.made(model, 0, kind * 10).getClass();
        Model.need(is.isInstance(model.people.get(one)), 5);
        return model.people.get(one).m;
    }

    private int descends(int one, int parent) {
        people(one, one);
        in(parent, -1, one - 1);
        Integer was = parent < 0 ? model.parents.remove(one) : model.parents.put(one, parent);
        return was == null ? -1 : was;
    }

    private int marries(int one, int other) {
        people(one, other);
        Model.need(one != other, 1);
        Model.need(!model.spouses.containsKey(one) && !model.spouses.containsKey(other), 3);
        model.spouses.put(one, other);
        model.spouses.put(other, one);
        return model.near(one).size();
    }

    private int parts(int one) {
        people(one, one);
        Model.need(model.spouses.containsKey(one), 2);
        int was = model.spouses.remove(one);
        model.spouses.remove(was);
        return was;
    }

    private int meets(int place, int one, int other) {
        in(place, 0, 5);
        in(one, 0, 7);
        in(other, 0, 7);
        int[] was = model.meetings[place];
        model.meetings[place] = new int[] {one, other};
        return was[0] * 10 + was[1];
    }

    private int trade(int what, int v) {
        in(what, 0, 1);
        in(v, 0, what == 0 ? 999 : 40);
        int was = what == 0 ? model.cloth : model.order;
        if (what == 0) {
            model.cloth = v;
        } else {
            model.order = v;
        }
        return was;
    }

    private int feed(long word, int n) {
        in(n, 1, 8);
        Model.need(model.tape.length() + n <= 60, 4);
        for (int i = 0; i < n; i++) {
            model.tape.append((char) (word >> 8 * i & 255));
        }
        return model.tape.length();
    }

    // Known TEXTS alone are taken; FAULT is tested elsewhere, so that here its place is the program's.
    private int text(int use) {
        in(use, 0, 1);
        String text = model.tape.toString();
        model.tape.setLength(0);
        for (int i = 0; i < TEXTS[use].length; i++) {
            if (TEXTS[use][i].equals(text)) {
                model.laws[use] = law(use, i);
                return 1;
            }
        }
        VeilSteps other = new VeilSteps();
        int got = Due.tell(other, use, text);
        if (got == 1) {
            model.laws[use] = (p, q, r) -> {
                VeilSteps law = new VeilSteps();
                Due.tell(law, use, text);
                return law.law(use, p, q, r);
            };
        }
        return got;
    }

    private int untell(int use) {
        in(use, 0, 1);
        int was = model.laws[use] == null ? 0 : 1;
        model.laws[use] = null;
        return was;
    }

    private int years(int n, boolean drawn) {
        in(n, 1, drawn ? 30 : 60);
        Model.need(model.year + n <= 9999, 3);
        for (int i = 0; i < n; i++) {
            if (drawn) {
                int looker = model.draw() % 8;
                model.meetings[model.year % 6] = new int[] {looker, model.draw() % 8};
            }
            model.pass();
        }
        return model.together();
    }

    private int swapYear(int v) {
        int was = model.year;
        model.year = v;
        return was;
    }

    private int seed(int v) {
        int was = model.z;
        model.z = v;
        return was;
    }

    private int soonest(int one, int other) {
        people(one, other);
        for (int n = 0; n <= 60; n++) {
            if (model.on(n).seen.get(one).contains(other)) {
                return n;
            }
        }
        throw new Model.Fail(2);
    }

    private int match(int one, int other, int what) {
        people(one, other);
        in(what, 0, 1);
        int fewest = model.walk(one, other);
        int pair = -1;
        for (int a = 0; a < model.people.size(); a++) {
            for (int b = a + 1; b < model.people.size(); b++) {
                if (model.spouses.containsKey(a) || model.spouses.containsKey(b)) {
                    continue;
                }
                Model married = model.kept();
                married.spouses.put(a, b);
                married.spouses.put(b, a);
                int steps = married.walk(one, other);
                if (steps < fewest) {
                    fewest = steps;
                    pair = a * 10 + b;
                }
            }
        }
        Model.need(pair >= 0, 2);
        return what == 0 ? pair : fewest;
    }

    private int orderFor(int one, int n) {
        people(one, one);
        in(n, 0, 40);
        for (int order = 0; order <= 40; order++) {
            Model other = model.kept();
            other.order = order;
            if (other.on(n).whoSaw(one).equals(model.whoSaw(one))) {
                return order;
            }
        }
        throw new Model.Fail(2);
    }

    private int witnesses(int people) {
        in(people, 0, (1 << model.people.size()) - 1);
        for (int n = 0; n <= model.people.size(); n++) {
            for (int set = 0; set < 1 << model.people.size(); set++) {
                Set<Integer> all = new HashSet<>();
                for (int one = 0; one < 8; one++) {
                    if ((set >> one) % 2 == 1) {
                        all.addAll(model.seen.get(one));
                    }
                }
                if (Integer.bitCount(set) == n && (Model.bits(all) & people) == people) {
                    return set;
                }
            }
        }
        throw new Model.Fail(2);
    }

    private int odds(int one, int part) {
        people(one, one);
        in(part, 0, 1);
        int below = model.people.size() - 1;
        Model.need(below > 0, 3);
        int above = 0;
        for (int other = 0; other <= below; other++) {
            above += other != one && model.veils(other, one) <= model.sight(one) ? 1 : 0;
        }
        for (int lowest = 1; ; lowest++) {
            if (above * lowest % below == 0) {
                return part == 0 ? above * lowest / below : lowest;
            }
        }
    }

    private int fits(int sheet, int one, int what) {
        in(sheet, 0, 3);
        people(one, one);
        in(what, 0, 1);
        Model.need(model.sheets[sheet] != null, 2);
        List<Integer> fitting = new ArrayList<>();
        for (int parent = 0; parent < one; parent++) {
            Model other = model.kept();
            other.parents.put(one, parent);
            boolean fits = model.length(sheet) <= model.people.size();
            for (int i = 0; fits && i < model.length(sheet); i++) {
                fits = other.veils(one, i) == model.number(sheet, i);
            }
            if (fits) {
                fitting.add(parent);
            }
        }
        return what == 1 ? fitting.size() : Model.bits(new HashSet<>(fitting));
    }

    private int voice(int one, int voice, int x) {
        people(one, one);
        in(voice, 0, 3);
        model.trace = new ArrayList<>();
        Model.Woman woman = model.people.get(one);
        try {
            return voice == 0 ? woman.lowers(x) : voice == 1 ? woman.lifts(x) : voice == 2 ? woman.looks(x) : woman.parts(x);
        } catch (ArithmeticException byNought) {
            throw new Model.Fail(6);
        }
    }

    private int sheet(int sheet, int bits, int n) {
        in(sheet, 0, 3);
        Model.need(List.of(0, 8, 16, 32).contains(bits), 1);
        if (bits == 0) {
            model.sheets[sheet] = null;
            return 1;
        }
        Model.need(n >= 0, 3);
        in(n, 0, 24);
        model.sheets[sheet] = bits == 8 ? new byte[n] : bits == 16 ? new short[n] : new int[n];
        return 1;
    }

    private int put(int sheet, int i, int v) {
        in(sheet, 0, 3);
        Model.need(model.sheets[sheet] != null, 2);
        in(i, 0, model.length(sheet) - 1);
        model.number(sheet, i, v);
        return 1;
    }

    private int move(int sheet, int i, int other, int j, int n) {
        in(sheet, 0, 3);
        in(other, 0, 3);
        Model.need(model.sheets[sheet] != null && model.sheets[other] != null, 2);
        Model.need(model.sheets[sheet].getClass() == model.sheets[other].getClass(), 5);
        try {
            System.arraycopy(model.sheets[sheet], i, model.sheets[other], j, n);
        } catch (IndexOutOfBoundsException beyond) {
            throw new Model.Fail(1);
        }
        return n;
    }

    private int seenAll(int sheet) {
        in(sheet, 0, 3);
        Model.need(model.sheets[sheet] != null, 2);
        for (int i = 0; i < model.length(sheet); i++) {
            int v = model.number(sheet, i);
            if (!model.is(i) || v < 0 || v >= 1 << model.people.size()) {
                return i;
            }
            TreeSet<Integer> set = new TreeSet<>();
            for (int one = 0; one < 8; one++) {
                if ((v >> one & 1) == 1) {
                    set.add(one);
                }
            }
            model.seen.set(i, set);
        }
        return model.length(sheet);
    }

    private int judge(int sheet) {
        in(sheet, 0, 3);
        Model.need(model.sheets[sheet] != null, 2);
        for (int i = 0; i < model.length(sheet); i++) {
            if (!model.is(i) || model.number(sheet, i) != model.parents.getOrDefault(i, -1)) {
                return i;
            }
        }
        return model.length(sheet);
    }

    private int restore() {
        Model.need(model.image != null, 2);
        model.restore();
        return model.year;
    }

    private int check() {
        List<Integer> waiting = new ArrayList<>(model.waiting);
        model.waiting.clear();
        for (int i = 0; i < waiting.size(); i++) {
            if (!model.is(i) || waiting.get(i) != model.sight(i)) {
                return 1 + i;
            }
        }
        return 0;
    }

    private int count(int what) {
        in(what, 0, 8);
        int[] all = {
            model.people.size(), model.year, model.cloth, model.order, model.together(), model.tape.length(),
            model.waiting.size(), model.trace.size(), model.z,
        };
        return all[what];
    }
}
