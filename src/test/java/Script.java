import java.lang.reflect.Method;
import java.util.ArrayList;
import java.util.HashMap;
import java.util.List;
import java.util.Map;
import java.util.regex.Matcher;
import java.util.regex.Pattern;

// Calls on one object, written as the document writes them: "year(0); year(10000) = BEYOND".
// A text in quotes is fed ahead of the call: "text(0, 'v+s') = 1". So many numbers behind
// "fill(sheet, bits, ..)" make a SHEET of just these.
final class Script {
    private static final int MOST_CALLS = 512;
    private static final Pattern CALL = Pattern.compile("(\\w+)\\(([^']*?)(?:'(.*)')?\\)(?: = (\\S+))?", Pattern.DOTALL);
    private static final Map<String, Method> FACE = face();
    private static final Map<String, Integer> WORDS = Map.of(
        "MIN", Integer.MIN_VALUE, "MAX", Integer.MAX_VALUE, "BEYOND", Due.BEYOND, "NONE", Due.NONE,
        "STATE", Due.STATE, "FULL", Due.FULL, "KIND", Due.KIND, "PARTED", Due.PARTED);

    private final VeilSteps x = new VeilSteps();
    private int calls = 0;

    private static Map<String, Method> face() {
        Map<String, Method> face = new HashMap<>();
        for (Method method : VeilSteps.class.getMethods()) {
            if (method.getDeclaringClass() == VeilSteps.class) {
                face.put(method.getName(), method);
            }
        }
        return face;
    }

    // A new object, asked all that these lines say.
    static Script of(String... lines) {
        return new Script().asks(lines);
    }

    // The same, for a sentence of the document that is named when an answer is wrong.
    static Script about(String sentence, String... lines) {
        Due.about(sentence);
        return of(lines);
    }

    Script asks(String... lines) {
        for (String line : lines) {
            for (String call : line.split("; *")) {
                ask(call.trim());
            }
        }
        return this;
    }

    int ask(String call) {
        Matcher parts = CALL.matcher(call);
        if (!parts.matches()) {
            throw new IllegalArgumentException("no call: " + call);
        }
        if (parts.group(3) != null) {
            feed(parts.group(3));
        }
        List<Long> with = numbers(parts.group(2));
        boolean fed = parts.group(1).equals("feed") && with.isEmpty();
        int answer = fed ? asked("count", List.of(5L)) : parts.group(1).equals("fill") ? fill(with) : asked(parts.group(1), with);
        if (parts.group(4) != null) {
            Due.is(call, answer, number(parts.group(4)));
        }
        return answer;
    }

    static long number(String word) {
        return WORDS.containsKey(word) ? WORDS.get(word) : Long.decode(word);
    }

    private static List<Long> numbers(String words) {
        List<Long> numbers = new ArrayList<>();
        for (String word : words.split(",")) {
            if (!word.isBlank()) {
                numbers.add(number(word.trim()));
            }
        }
        return numbers;
    }

    private void feed(String text) {
        for (int from = 0; from < text.length(); from += 8) {
            int n = Math.min(8, text.length() - from);
            long word = 0;
            for (int i = n - 1; i >= 0; i--) {
                word = word << 8 | text.charAt(from + i) & 255;
            }
            asked("feed", List.of(word, (long) n));
        }
    }

    private int fill(List<Long> with) {
        asked("sheet", List.of(with.get(0), with.get(1), with.size() - 2L));
        for (int i = 2; i < with.size(); i++) {
            asked("put", List.of(with.get(0), i - 2L, with.get(i)));
        }
        return with.size() - 2;
    }

    private int asked(String name, List<Long> with) {
        calls++;
        if (calls > MOST_CALLS) {
            throw new IllegalStateException("what a later call answers is free: " + name);
        }
        Method method = FACE.get(name);
        if (method == null || method.getParameterCount() != with.size()) {
            throw new IllegalArgumentException("no call: " + name + " of " + with);
        }
        Object[] all = new Object[with.size()];
        for (int i = 0; i < all.length; i++) {
            boolean isLong = method.getParameterTypes()[i] == long.class;
            all[i] = isLong ? (Object) with.get(i) : (Object) Math.toIntExact(with.get(i));
        }
        try {
            return (int) method.invoke(x, all);
        } catch (ReflectiveOperationException thrown) {
            throw new IllegalStateException(name + " of " + with, thrown);
        }
    }
}
