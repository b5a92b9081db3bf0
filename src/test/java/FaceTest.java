import java.lang.reflect.Constructor;
import java.lang.reflect.Field;
import java.lang.reflect.Method;
import java.lang.reflect.Modifier;
import java.nio.file.Files;
import java.nio.file.Path;
import java.util.ArrayList;
import java.util.Arrays;
import java.util.HashSet;
import java.util.List;
import java.util.Set;
import java.util.TreeSet;
import java.util.regex.Matcher;
import java.util.regex.Pattern;

/** The public face, and the rules of LANGUAGE.md that can be seen from outside. */
public final class FaceTest {
    private static final Due due = new Due("FaceTest");
    private static final String[] METHODS = {
        "module/0", "reads/2", "pack/1", "export/2", "type/5", "parent/2", "face/2", "member/5",
        "count/1", "about/2", "below/2", "open/2", "of/2", "use/5", "make/4", "overrides/2",
        "choose/2", "check/1", "fault/3"};

    public static void main(String[] args) throws Exception {
        constants();
        face();
        classesWithin();
        namesOfPrivateMethods();
        if (args.length > 0) {
            source(Files.readString(Path.of(args[0])));
        }
        due.end();
    }

    private static void constants() {
        due.is("BAD", AccessJudge.BAD, -1);
        due.is("NONE", AccessJudge.NONE, -2);
        due.is("TWO", AccessJudge.TWO, -3);
        due.is("FULL", AccessJudge.FULL, -4);
    }

    private static void face() {
        Class<?> c = AccessJudge.class;
        due.holds("the class is public and final",
                Modifier.isPublic(c.getModifiers()) && Modifier.isFinal(c.getModifiers()));
        Set<String> methods = new TreeSet<>();
        for (Method m : c.getDeclaredMethods()) {
            if (!Modifier.isPrivate(m.getModifiers())) {
                methods.add(m.getName() + "/" + m.getParameterCount());
                due.holds(m + " is public, of an object, and answers int",
                        Modifier.isPublic(m.getModifiers()) && !Modifier.isStatic(m.getModifiers())
                        && m.getReturnType() == int.class);
                for (Class<?> p : m.getParameterTypes()) {
                    due.holds(m + " takes ints", p == int.class);
                }
            }
        }
        due.holds("the methods are the document's: " + methods,
                methods.equals(new TreeSet<>(Arrays.asList(METHODS))));
        Set<String> fields = new TreeSet<>();
        for (Field f : c.getDeclaredFields()) {
            if (!Modifier.isPrivate(f.getModifiers())) {
                fields.add(f.getName());
            }
        }
        due.holds("the constants are the document's: " + fields,
                fields.equals(new TreeSet<>(Arrays.asList("BAD", "NONE", "TWO", "FULL"))));
        Constructor<?>[] constructors = c.getDeclaredConstructors();
        due.holds("one public constructor without parameters", constructors.length == 1
                && constructors[0].getParameterCount() == 0
                && Modifier.isPublic(constructors[0].getModifiers()));
    }

    private static void classesWithin() {
        Class<?>[] within = AccessJudge.class.getDeclaredClasses();
        due.holds("some twelve classes at most", within.length < 12);
        for (Class<?> c : within) {
            int modifiers = c.getModifiers();
            due.holds(c + " is static, and neither public nor protected",
                    Modifier.isStatic(modifiers) && !Modifier.isPublic(modifiers)
                    && !Modifier.isProtected(modifiers));
            int own = 0;
            for (Field f : c.getDeclaredFields()) {
                int fieldModifiers = f.getModifiers();
                due.holds(f + " is final, if static",
                        !Modifier.isStatic(fieldModifiers) || Modifier.isFinal(fieldModifiers));
                own += Modifier.isStatic(fieldModifiers) ? 0 : 1;
            }
            due.holds(c + " has some twenty fields at most", own <= 20);
        }
    }

    private static void namesOfPrivateMethods() {
        Set<String> publicNames = new HashSet<>();
        for (String method : METHODS) {
            publicNames.add(method.substring(0, method.indexOf('/')));
        }
        List<Method> others = new ArrayList<>();
        for (Method m : AccessJudge.class.getDeclaredMethods()) {
            if (Modifier.isPrivate(m.getModifiers())) {
                others.add(m);
            }
        }
        for (Class<?> c : AccessJudge.class.getDeclaredClasses()) {
            others.addAll(Arrays.asList(c.getDeclaredMethods()));
        }
        for (Method m : others) {
            due.holds(m + " has a name of its own", !publicNames.contains(m.getName()));
            due.holds(m + " takes seven at most", m.getParameterCount() <= 7);
        }
    }

    private static void source(String text) {
        String code = text.replaceAll("(?s)/\\*.*?\\*/", "").replaceAll("//[^\n]*", "");
        String[] words = {"throw", "throws", "try", "catch", "synchronized", "assert", "package",
            "Math\\.\\w+Exact", "System\\.(?!arraycopy)\\w+", "hashCode", "toString", "Random",
            "Thread", "double", "float", "protected", "volatile", "native"};
        for (String word : words) {
            Matcher m = Pattern.compile("\\b" + word + "\\b").matcher(code);
            due.holds("the source does without " + word, !m.find());
        }
        due.holds("no lambda and no method reference",
                !code.contains("->") && !code.contains("::"));
        Matcher imports = Pattern.compile("(?m)^import\\s+(\\S+);").matcher(code);
        while (imports.find()) {
            due.holds("import " + imports.group(1), imports.group(1).equals("java.util.Arrays")
                    || imports.group(1).equals("java.util.ArrayList")
                    || imports.group(1).equals("java.util.List"));
        }
    }
}
