import java.lang.management.ManagementFactory;
import java.lang.reflect.Method;
import java.util.ArrayList;
import java.util.Comparator;
import java.util.List;
import java.util.Random;

// Whatever is asked, an answer comes; and calls make nothing that stays in the room of a run.
public final class RoomTest {
    private static final int OBJECTS = 400;
    private static final int CALLS = 512;

    public static void main(String[] args) throws Exception {
        anythingIsAnswered();
        callsMakeNothing();
        Due.close();
    }

    private static void anythingIsAnswered() throws Exception {
        Due.about("any arguments in any state");
        List<Method> methods = new ArrayList<>();
        for (Method method : VeilSteps.class.getDeclaredMethods()) {
            if (method.getReturnType() == int.class && java.lang.reflect.Modifier.isPublic(method.getModifiers())) {
                methods.add(method);
            }
        }
        methods.sort(Comparator.comparing(Method::getName));
        Random random = new Random(41);
        for (int i = 0; i < OBJECTS; i++) {
            VeilSteps x = i % 3 == 0 ? new VeilSteps() : i % 3 == 1 ? Due.family() : Due.line(8);
            for (int n = 0; n < CALLS; n++) {
                asked(x, methods.get(random.nextInt(methods.size())), random);
            }
        }
        Due.holds("all are answered", true);
    }

    private static void asked(VeilSteps x, Method method, Random random) {
        Object[] with = new Object[method.getParameterCount()];
        for (int i = 0; i < with.length; i++) {
            int number = anyNumber(random);
            boolean isLong = method.getParameterTypes()[i] == long.class;
            with[i] = isLong ? (Object) anyWord(random) : (Object) number;
        }
        try {
            method.invoke(x, with);
        } catch (ReflectiveOperationException thrown) {
            Due.holds(method + " of " + List.of(with) + ": " + thrown.getCause(), false);
        }
    }

    private static int anyNumber(Random random) {
        int[] far = {Integer.MIN_VALUE, Integer.MIN_VALUE + 1, -65536, -41, -1, 24, 25, 60, 69, 255, 999, 9999, 10000, Integer.MAX_VALUE};
        int pick = random.nextInt(10);
        return pick == 0 ? far[random.nextInt(far.length)] : pick == 1 ? random.nextInt() : random.nextInt(pick < 8 ? 8 : 70);
    }

    private static long anyWord(Random random) {
        String signs = "vsyec019!()|&<=>+-*/%";
        long word = random.nextInt(50) == 0 ? random.nextLong() : 0;
        for (int i = 0; i < 8; i++) {
            word = word << 8 | signs.charAt(random.nextInt(signs.length()));
        }
        return word;
    }

    private static VeilSteps dear() {
        VeilSteps x = Due.line(8);
        Due.tell(x, 0, "((((v+s)*3-y)%41|!!!v)&1)*(s<4)+(v%7+s*y)/3-(v=s)*y+s%5*2+0");
        Due.tell(x, 1, "e*2+c%7-(y>3)*(e<c|c=9)+!!!!e%3");
        x.sheet(0, 32, 8);
        x.sheet(1, 32, 24);
        return x;
    }

    private static int all(VeilSteps x, int n) {
        int one = n % 8;
        int sum = x.orderFor(one, 40) + x.soonest(one, 7 - one) + x.then(one, 60) + x.match(one, 0, 0);
        sum += x.witnesses(255) + x.odds(one, 0) + x.fits(0, 7, 0) + x.voice(one, n % 4, n) + x.body(0);
        sum += x.feed(0x2B732B762B732B76L, 8) + x.text(0) + x.law(0, n, 1, 2) + x.feed('e', 1) + x.text(1);
        sum += x.become(one, n % 70) + x.descends(one, -1) + x.marries(one, 7 - one) + x.parts(one) + x.steps(0, 7);
        sum += x.sheet(2, 8, 24) + x.put(2, 0, n) + x.move(1, 0, 1, 4, 20) + x.seenAll(0) + x.judge(0);
        sum += x.image() + x.restore() + x.tell(n) + x.check() + x.count(4) + x.told(1) + x.loose(1) + x.years(1);
        return sum + x.lets(0, 1) + x.personIs(0, 5) + x.seers(0) + x.as(0, 0) + x.meets(0, 1, 2) + x.untell(1);
    }

    private static void callsMakeNothing() {
        Due.about("the room");
        com.sun.management.ThreadMXBean threads = (com.sun.management.ThreadMXBean) ManagementFactory.getThreadMXBean();
        int sum = all(dear(), 1);
        long self = Thread.currentThread().getId();
        threads.getThreadAllocatedBytes(self);
        long first = threads.getThreadAllocatedBytes(self);
        VeilSteps x = dear();
        long made = threads.getThreadAllocatedBytes(self);
        for (int n = 0; n < CALLS; n++) {
            sum += all(x, n);
        }
        long asked = threads.getThreadAllocatedBytes(self);
        Due.holds("a new object is " + (made - first) + " bytes", made - first < 20000);
        Due.holds("calls made " + (asked - made) + " bytes", asked - made < 4096);
        Due.holds("they were asked", sum != 1);
    }
}
