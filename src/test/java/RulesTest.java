import java.io.IOException;
import java.lang.reflect.Constructor;
import java.lang.reflect.Field;
import java.lang.reflect.Method;
import java.lang.reflect.Modifier;
import java.nio.file.Files;
import java.nio.file.Path;
import java.util.Arrays;
import java.util.HashSet;
import java.util.List;
import java.util.Set;
import java.util.TreeSet;
import java.util.regex.Matcher;
import java.util.regex.Pattern;

/** The public face, and the rules of the language that can be read from the class or its source. */
public final class RulesTest {
    private static final String[] FACE = {
        "int reset(int,int) IllegalArgumentException",
        "int wall(int,int,int,int,boolean) IndexOutOfBoundsException IllegalStateException",
        "int mark(int,int,int) IndexOutOfBoundsException IllegalStateException",
        "int set(int,int) IllegalArgumentException",
        "int field(int,int,int) IndexOutOfBoundsException IllegalArgumentException",
        "int far(int,int,int) IndexOutOfBoundsException",
        "int farthest(int) IndexOutOfBoundsException",
        "int walker(int,int,int,int,int) IndexOutOfBoundsException IllegalArgumentException IllegalStateException",
        "int turnTo(int,int,int) IndexOutOfBoundsException IllegalArgumentException IllegalStateException",
        "int tick(int) IllegalArgumentException",
        "int clock()",
        "int many(int) IllegalArgumentException",
        "int ofWalker(int,int) IndexOutOfBoundsException IllegalArgumentException",
        "int cost(int,int) IndexOutOfBoundsException IllegalArgumentException",
        "int wants(int) IndexOutOfBoundsException",
        "int way(int,int) IndexOutOfBoundsException IllegalArgumentException",
        "int jam(int) IndexOutOfBoundsException",
        "double meanSteps()",
        "int outIn(int,int) IndexOutOfBoundsException IllegalArgumentException",
        "int outWith(int,int) IllegalArgumentException",
        "int outBy(int,int,int) IndexOutOfBoundsException IllegalArgumentException IllegalStateException",
        "int jamIn(int) IllegalArgumentException",
        "int farWith(int,int,int) IndexOutOfBoundsException",
        "long digest()",
    };
    private static final String[] NOT_IN_SOURCE = {
        "\\bimport\\b", "\\bpackage\\b", "\\btry\\b", "\\bcatch\\b", "\\bfinally\\b", "\\bsynchronized\\b",
        "\\bassert\\b", "->", "::", "\\bSystem\\.(?!arraycopy)", "\\bThread\\b", "Exact\\b", "\\.equals\\(",
        "hashCode", "toString", "\\bwhile\\b", "@", "\\bRuntimeException\\b", "\" \\+|\\+ \"",
    };

    private RulesTest() {
    }

    public static void main(String[] args) throws IOException {
        face();
        members();
        classes();
        source(Files.readString(Path.of(args[0])));
        Check.end();
    }

    private static void holds(String rule, boolean isKept) {
        Check.due(rule, 1, isKept ? 1 : 0);
    }

    private static String told(Method m) {
        StringBuilder text = new StringBuilder(m.getReturnType() + " " + m.getName() + "(");
        for (Class<?> c : m.getParameterTypes()) {
            text.append(text.charAt(text.length() - 1) == '(' ? "" : ",").append(c.getName());
        }
        text.append(')');
        for (Class<?> c : m.getExceptionTypes()) {
            text.append(' ').append(c.getSimpleName());
        }
        return text.toString();
    }

    private static void face() {
        Set<String> found = new TreeSet<>();
        for (Method m : StarlingSquare.class.getDeclaredMethods()) {
            if (!Modifier.isPrivate(m.getModifiers())) {
                found.add((Modifier.isPublic(m.getModifiers()) ? "" : "not public: ") + told(m));
            }
        }
        Set<String> want = new TreeSet<>(Arrays.asList(FACE));
        holds("the face is " + want + ", and " + found, want.equals(found));
        int type = StarlingSquare.class.getModifiers();
        holds("public and final", Modifier.isPublic(type) && Modifier.isFinal(type));
        Constructor<?>[] made = StarlingSquare.class.getDeclaredConstructors();
        holds("one public constructor without parameters", made.length == 1
                && Modifier.isPublic(made[0].getModifiers()) && made[0].getParameterCount() == 0);
    }

    private static Set<String> publicNames() {
        Set<String> names = new HashSet<>();
        for (String one : FACE) {
            names.add(one.substring(one.indexOf(' ') + 1, one.indexOf('(')));
        }
        return names;
    }

    private static void members() {
        Set<String> names = publicNames();
        for (Method m : StarlingSquare.class.getDeclaredMethods()) {
            boolean isOwn = Modifier.isPrivate(m.getModifiers());
            holds("rule 1: private " + m.getName(), !isOwn || !names.contains(m.getName()));
        }
        for (Field f : StarlingSquare.class.getDeclaredFields()) {
            holds("rule 1: " + f.getName() + " is private", Modifier.isPrivate(f.getModifiers()));
        }
    }

    private static void classes() {
        List<Class<?>> inside = Arrays.asList(StarlingSquare.class.getDeclaredClasses());
        holds("rule 11: twelve classes", inside.size() < 12);
        for (Class<?> c : inside) {
            int mod = c.getModifiers();
            boolean isHidden = !Modifier.isPublic(mod) && !Modifier.isProtected(mod);
            holds("rule 1: " + c.getSimpleName(), isHidden && Modifier.isStatic(mod));
            fieldsOf(c);
            for (Method m : c.getDeclaredMethods()) {
                holds("rule 11: parameters of " + m.getName(), m.getParameterCount() <= 7);
                holds("rule 1: the name " + m.getName(), !publicNames().contains(m.getName()));
            }
        }
        fieldsOf(StarlingSquare.class);
    }

    private static void fieldsOf(Class<?> c) {
        int own = 0;
        for (Field f : c.getDeclaredFields()) {
            boolean isStatic = Modifier.isStatic(f.getModifiers());
            holds("rule 5: " + f.getName(), !isStatic || Modifier.isFinal(f.getModifiers()));
            own += isStatic ? 0 : 1;
        }
        holds("rule 11: fields of " + c.getSimpleName(), own <= 20);
    }

    private static void source(String text) {
        String code = text.replaceAll("(?s)/\\*.*?\\*/", "").replaceAll("//[^\n]*", "");
        for (String pattern : NOT_IN_SOURCE) {
            holds("the source is without " + pattern, !Pattern.compile(pattern).matcher(code).find());
        }
        holds("rule 4: signs are 1 to 127", text.chars().allMatch(c -> c >= 1 && c <= 127));
        methodLengths(code);
        whatIsMade(code);
    }

    private static void methodLengths(String code) {
        int begun = 0;
        String[] lines = code.split("\n");
        for (int i = 0; i < lines.length; i++) {
            if (lines[i].matches(" {4}( {4})?\\S.*\\{") || lines[i].matches(" {8}( {4})?( {4})?throws .*\\{")) {
                begun = i;
            }
            if (lines[i].matches(" {4}( {4})?\\}") && !lines[begun].contains(" class ")) {
                holds("rule 11: the method that begins with " + lines[begun], i - begun <= 60);
            }
        }
    }

    /** All rows and objects are made with the object itself; a call makes nothing but an exception. */
    private static void whatIsMade(String code) {
        Matcher made = Pattern.compile("([^\n;]*)\\bnew (\\w+)").matcher(code);
        while (made.find()) {
            boolean isThrown = made.group(1).contains("throw ") && made.group(2).endsWith("Exception");
            boolean isRow = made.group(1).contains("private final ");
            boolean isPart = made.group(1).matches(" {8}\\w+ = ")
                    || made.group(1).contains("walkers[i] = ") && made.group(2).equals("Walker");
            holds("made by a call: " + made.group().trim(), isThrown || isRow || isPart);
        }
    }
}
