import java.util.ArrayDeque;
import java.util.ArrayList;
import java.util.Arrays;
import java.util.HashSet;
import java.util.List;
import java.util.Set;
import java.util.TreeMap;
import java.util.TreeSet;

// The document once more, held in other ways than in VeilSteps: people are objects of a class
// for each KIND, sets are sets, steps are walked anew each time, and errors are thrown.
final class Model {
    static final class Fail extends RuntimeException {
        private static final long serialVersionUID = 1L;
        final int k;

        Fail(int k) {
            super(null, null, false, false);
            this.k = k;
        }
    }

    // Laws come from the test, which knows what it feeds: a TEXT by its bytes.
    interface Law {
        int gives(int a, int b, int c);
    }

    static class Woman {
        final Model all;
        final int k;
        int m;
        int km;

        Woman(Model all, int k, int km) {
            this.all = all;
            this.k = k;
            this.km = km;
            this.m = km % 10;
        }

        int lets(int steps) {
            return steps;
        }

        int sees() {
            return 2;
        }

        int lowers(int x) {
            all.trace.add(10);
            return x + k;
        }

        int lifts(int x) {
            all.trace.add(11);
            return lowers(x) * 2;
        }

        int looks(int x) {
            all.trace.add(12);
            return lifts(x) - m;
        }

        int parts(int x) {
            all.trace.add(13);
            return x / (m - k);
        }
    }

    static class Heiress extends Woman {
        Heiress(Model all, int k, int km) {
            super(all, k, km);
        }

        @Override int lets(int steps) {
            return super.lets(steps) / 2;
        }

        @Override int sees() {
            return super.sees() + all.near(k).size();
        }

        @Override int lowers(int x) {
            all.trace.add(20);
            return super.lowers(x) - 4;
        }

        @Override int parts(int x) {
            all.trace.add(21);
            return super.parts(x) + lifts(1);
        }
    }

    static class Judge extends Woman {
        Judge(Model all, int k, int km) {
            super(all, k, km);
        }

        @Override int lets(int steps) {
            return steps % 2 == 0 ? super.lets(steps) : super.lets(steps) / 3;
        }

        @Override int sees() {
            return super.sees() + 3;
        }

        @Override int lifts(int x) {
            all.trace.add(30);
            return 0 - super.lifts(x);
        }
    }

    static class Bale extends Woman {
        Bale(Model all, int k, int km) {
            super(all, k, km);
        }

        @Override int lets(int steps) {
            return 2 * super.lets(steps);
        }

        @Override int sees() {
            return super.sees() / 2;
        }

        @Override int looks(int x) {
            all.trace.add(40);
            return super.looks(x / 2);
        }
    }

    static class Goatherd extends Heiress {
        Goatherd(Model all, int k, int km) {
            super(all, k, km);
        }

        @Override int lets(int steps) {
            return super.lets(steps) + m;
        }

        @Override int sees() {
            return super.sees() + m;
        }

        @Override int lowers(int x) {
            all.trace.add(50);
            return super.lowers(x) * 3;
        }

        @Override int looks(int x) {
            all.trace.add(51);
            return super.looks(x) ^ k;
        }
    }

    static class Ring extends Judge {
        Ring(Model all, int k, int km) {
            super(all, k, km);
        }

        @Override int lets(int steps) {
            return Math.min(4, super.lets(steps));
        }

        @Override int sees() {
            return all.year % 2 == 0 ? super.sees() + m : super.sees();
        }

        @Override int lifts(int x) {
            all.trace.add(60);
            return super.lifts(x + 1);
        }
    }

    static class Stranger extends Woman {
        Stranger(Model all, int k, int km) {
            super(all, k, km);
        }

        @Override int lets(int steps) {
            return steps > 2 ? 40 : 1 + super.lets(steps);
        }

        @Override int sees() {
            return m;
        }

        @Override int lowers(int x) {
            all.trace.add(70);
            return 9;
        }

        @Override int lifts(int x) {
            all.trace.add(71);
            return super.lifts(x) + m;
        }
    }

    int year = 0;
    int cloth = 100;
    int order = 5;
    int z = 1;
    final List<Woman> people = new ArrayList<>();
    final TreeMap<Integer, Integer> parents = new TreeMap<>();
    final TreeMap<Integer, Integer> spouses = new TreeMap<>();
    final List<TreeSet<Integer>> seen = new ArrayList<>();
    final int[][] meetings = {{0, 1}, {0, 1}, {0, 1}, {0, 1}, {0, 1}, {0, 1}};
    final Law[] laws = new Law[2];
    StringBuilder tape = new StringBuilder();
    final List<Integer> waiting = new ArrayList<>();
    List<Integer> trace = new ArrayList<>();
    final Object[] sheets = new Object[4];
    final int[] errors = new int[7];
    Model image = null;
    int images = 0;

    // All that an image keeps, and nothing else.
    Model kept() {
        Model other = new Model();
        other.take(this);
        return other;
    }

    void restore() {
        take(image);
    }

    private void take(Model from) {
        year = from.year;
        cloth = from.cloth;
        order = from.order;
        z = from.z;
        people.clear();
        seen.clear();
        for (Woman one : from.people) {
            people.add(made(this, one.k, one.km));
            seen.add(new TreeSet<>(from.seen.get(one.k)));
        }
        parents.clear();
        parents.putAll(from.parents);
        spouses.clear();
        spouses.putAll(from.spouses);
        for (int i = 0; i < 6; i++) {
            meetings[i] = from.meetings[i].clone();
        }
        laws[0] = from.laws[0];
        laws[1] = from.laws[1];
        tape = new StringBuilder(from.tape);
        waiting.clear();
        waiting.addAll(from.waiting);
    }

    static Woman made(Model all, int k, int km) {
        switch (km / 10) {
            case 0: return new Woman(all, k, km);
            case 1: return new Heiress(all, k, km);
            case 2: return new Judge(all, k, km);
            case 3: return new Bale(all, k, km);
            case 4: return new Goatherd(all, k, km);
            case 5: return new Ring(all, k, km);
            default: return new Stranger(all, k, km);
        }
    }

    static void need(boolean so, int k) {
        if (!so) {
            throw new Fail(k);
        }
    }

    boolean is(int one) {
        return one >= 0 && one < people.size();
    }

    Set<Integer> near(int one) {
        Set<Integer> near = new HashSet<>();
        for (int other = 0; other < people.size(); other++) {
            boolean child = parents.containsKey(other) && parents.get(other) == one;
            boolean parent = parents.containsKey(one) && parents.get(one) == other;
            boolean spouse = spouses.containsKey(one) && spouses.get(one) == other;
            if (child || parent || spouse) {
                near.add(other);
            }
        }
        return near;
    }

    int walk(int one, int other) {
        int[] far = new int[people.size()];
        Arrays.fill(far, 40);
        far[one] = 0;
        ArrayDeque<Integer> open = new ArrayDeque<>();
        open.add(one);
        while (!open.isEmpty()) {
            int at = open.remove();
            for (int next : near(at)) {
                if (far[next] == 40) {
                    far[next] = far[at] + 1;
                    open.add(next);
                }
            }
        }
        return far[other];
    }

    int given(int use, int a, int b, int c) {
        int by = laws[use] == null ? a : laws[use].gives(a, b, c);
        return by < 0 ? 0 : by > 40 ? 40 : by;
    }

    int veils(int one, int other) {
        int steps = walk(one, other);
        return given(0, people.get(one).lets(steps), steps, year % 8);
    }

    int sight(int one) {
        return given(1, people.get(one).sees(), year % 8, cloth / 10);
    }

    void pass() {
        int[] meeting = meetings[year % 6];
        if (meeting[0] != meeting[1] && is(meeting[0]) && is(meeting[1])) {
            int worn = Math.min(cloth, veils(meeting[1], meeting[0]));
            if (sight(meeting[0]) >= worn) {
                seen.get(meeting[0]).add(meeting[1]);
            }
            cloth = cloth - worn;
        }
        cloth = cloth + order > 999 ? 999 : cloth + order;
        year = year + 1;
    }

    Model on(int n) {
        Model later = kept();
        for (int i = 0; i < n; i++) {
            later.pass();
        }
        return later;
    }

    int draw() {
        z = z * 1103515245 + 12345;
        return z >>> 8;
    }

    static int bits(Set<Integer> set) {
        int bits = 0;
        for (int one : set) {
            bits += 1 << one;
        }
        return bits;
    }

    Set<Integer> whoSaw(int person) {
        Set<Integer> set = new HashSet<>();
        for (int one = 0; one < people.size(); one++) {
            if (seen.get(one).contains(person)) {
                set.add(one);
            }
        }
        return set;
    }

    int together() {
        int sum = 0;
        for (Set<Integer> set : seen) {
            sum += set.size();
        }
        return sum;
    }

    int length(int sheet) {
        return java.lang.reflect.Array.getLength(sheets[sheet]);
    }

    int number(int sheet, int i) {
        Object row = sheets[sheet];
        return row instanceof byte[] ? ((byte[]) row)[i] : row instanceof short[] ? ((short[]) row)[i] : ((int[]) row)[i];
    }

    void number(int sheet, int i, int v) {
        Object row = sheets[sheet];
        if (row instanceof byte[]) {
            ((byte[]) row)[i] = (byte) v;
        } else if (row instanceof short[]) {
            ((short[]) row)[i] = (short) v;
        } else {
            ((int[]) row)[i] = v;
        }
    }
}
