import java.lang.reflect.Field;
import java.lang.reflect.Method;
import java.lang.reflect.Modifier;
import java.nio.charset.StandardCharsets;
import java.nio.file.Files;
import java.nio.file.Path;
import java.util.ArrayList;
import java.util.List;
import java.util.TreeSet;
import java.util.regex.Matcher;
import java.util.regex.Pattern;

// The face of the document, and those rules of LANGUAGE.md that can be read off the source.
public final class SourceTest {
    private static final Path SOURCE = Path.of("src/main/java/VeilSteps.java");
    private static final Path DOCUMENT = Path.of("../shared/DOC.md");

    public static void main(String[] args) throws Exception {
        String source = Files.readString(SOURCE, StandardCharsets.ISO_8859_1);
        face(Files.readString(DOCUMENT));
        classes();
        words(withoutComments(source));
        methods(withoutComments(source));
        Due.close();
    }

    private static void face(String document) throws Exception {
        Due.about("rule 1");
        TreeSet<String> due = new TreeSet<>();
        Matcher lines = Pattern.compile("(?m)^    public int (\\w+)\\(([^)]*)\\);$").matcher(document);
        while (lines.find()) {
            due.add(lines.group(1) + "(" + lines.group(2).replaceAll(" \\w+(,|$)", "$1") + ")");
        }
        TreeSet<String> is = new TreeSet<>();
        TreeSet<String> hidden = new TreeSet<>();
        for (Method method : VeilSteps.class.getDeclaredMethods()) {
            List<String> types = new ArrayList<>();
            for (Class<?> type : method.getParameterTypes()) {
                types.add(type.getName());
            }
            if (Modifier.isPrivate(method.getModifiers())) {
                hidden.add(method.getName());
            } else {
                is.add(method.getName() + "(" + String.join(", ", types) + ")");
                Due.holds(method + " answers an int", method.getReturnType() == int.class);
            }
        }
        Due.is("methods of the document", due.size(), 40);
        Due.holds("the face is " + due + ", not " + is, is.equals(due));
        for (String name : hidden) {
            Due.holds("private " + name + " bears no public name", due.stream().noneMatch(d -> d.startsWith(name + "(")));
        }
        int modifiers = VeilSteps.class.getModifiers();
        Due.holds("public and final", Modifier.isPublic(modifiers) && Modifier.isFinal(modifiers));
        Due.is("constructors", VeilSteps.class.getDeclaredConstructors().length, 1);
        Due.is("public constructors", VeilSteps.class.getConstructors().length, 1);
    }

    private static void classes() {
        Due.about("rules 2, 5 and 11");
        Due.holds("some twelve classes", VeilSteps.class.getDeclaredClasses().length <= 11);
        fields(VeilSteps.class);
        for (Class<?> inside : VeilSteps.class.getDeclaredClasses()) {
            Due.holds(inside + " is static", Modifier.isStatic(inside.getModifiers()));
            Due.holds(inside + " is not public", !Modifier.isPublic(inside.getModifiers()));
            Due.is(inside + " has no classes inside", inside.getDeclaredClasses().length, 0);
            fields(inside);
        }
    }

    private static void fields(Class<?> of) {
        int own = 0;
        for (Field field : of.getDeclaredFields()) {
            boolean isStatic = Modifier.isStatic(field.getModifiers());
            own += isStatic ? 0 : 1;
            Due.holds(field + " is private", Modifier.isPrivate(field.getModifiers()));
            Due.holds(field + " is final", !isStatic || Modifier.isFinal(field.getModifiers()));
        }
        Due.holds(of + " has some twenty fields", own <= 20);
    }

    private static String withoutComments(String source) {
        return source.replaceAll("//[^\n]*", "").replaceAll("(?s)/\\*.*?\\*/", "");
    }

    private static void words(String source) {
        Due.about("rules 3, 4, 6 and 13");
        String[] forbidden = {
            "\\bthrow\\b", "\\bthrows\\b", "\\btry\\b", "\\bcatch\\b", "\\bsynchronized\\b", "\\bassert\\b", "->", "::",
            "\\bimport\\b", "\\bpackage\\b", "\\bprotected\\b", "\\bstatic\\s*\\{", "\\bObject\\b", "\\bequals\\b",
            "\\bhashCode\\b", "\\btoString\\b", "Exact\\b", "\\bThread\\b", "\\bRandom\\b", "\\bnanoTime\\b", "\\bnative\\b",
            "\\bvolatile\\b", "\\bdouble\\b", "\\bfloat\\b", "\\bnull\\b", "\\bwhile\\s*\\(\\s*true", "[^\\x00-\\x7f]",
        };
        for (String word : forbidden) {
            Due.holds("there is no " + word, !Pattern.compile(word).matcher(source).find());
        }
        Matcher calls = Pattern.compile("\\b(System|Math|Integer|Long|Arrays)\\.(\\w+)").matcher(source);
        while (calls.find()) {
            Due.holds(calls.group(), List.of("arraycopy", "min", "max", "floorMod", "bitCount").contains(calls.group(2)));
        }
    }

    private static void methods(String source) {
        Due.about("rule 11");
        String[] lines = source.split("\n", -1);
        Pattern head = Pattern.compile("^( +)(?:public |private |static |final )*[\\w\\[\\]]+ \\w+\\((.*)\\) \\{$");
        int methods = 0;
        for (int i = 0; i < lines.length; i++) {
            Matcher found = head.matcher(lines[i]);
            if (!found.matches() || lines[i].trim().startsWith("else")) {
                continue;
            }
            methods++;
            int end = i;
            while (end < lines.length && !lines[end].equals(found.group(1) + "}")) {
                end++;
            }
            Due.holds(lines[i].trim() + " is short", end - i < 60);
            Due.holds(lines[i].trim() + " takes at most seven", found.group(2).split(",").length <= 7);
        }
        Due.holds("methods were found", methods > 100);
    }
}
