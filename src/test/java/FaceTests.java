import java.lang.reflect.Constructor;
import java.lang.reflect.Field;
import java.lang.reflect.Method;
import java.lang.reflect.Modifier;
import java.nio.file.Files;
import java.nio.file.Path;
import java.util.Arrays;
import java.util.HashSet;
import java.util.Set;
import java.util.TreeSet;
import java.util.regex.Pattern;

/** The face is the document's and nothing else is seen; the source keeps to the rules that a look can tell. */
public final class FaceTests {
    private static final String[] FACE = {
        "int feed(int,int,int,int,int)", "int end(int)", "int spelling()", "int list(int)", "int known()",
        "int way()", "int fault(int)", "int key(int)", "int prime(int)", "int number(int,int)",
        "int turning(int,int,int)", "int turned(int,int,boolean)", "int fixed(int)", "int unlike()",
        "int seed(int,int)", "int run()", "int out(int,int)", "int saw(int,int)", "int cost(int)",
        "int agree(int,int)", "int surely(int,int)", "int read(int)", "long thrown(int,int,int)",
        "int strangers(int,int,int)", "int cheapest(int,int)", "int near()", "int comes(int,int)",
        "int goes(int,int)", "int both(int)", "int size(int,int,int)", "long caught(int,int,int,int)",
        "int opened(int,int,int,int)", "int count(int)"
    };

    private static final Due DUE = new Due("FaceTests");

    public static void main(String[] args) throws Exception {
        constants();
        members();
        innerClasses();
        source();
        DUE.finish();
    }

    private static void constants() {
        DUE.is("NONE", BothLists.NONE, -1);
        DUE.is("RANGE", BothLists.RANGE, -2);
        DUE.is("FULL", BothLists.FULL, -3);
        DUE.is("STATE", BothLists.STATE, -4);
    }

    private static String signature(Method m) {
        StringBuilder s = new StringBuilder(m.getReturnType().getName() + " " + m.getName() + "(");
        for (Class<?> type : m.getParameterTypes()) {
            s.append(s.charAt(s.length() - 1) == '(' ? "" : ",").append(type.getName());
        }
        return s.append(")").toString();
    }

    private static void members() {
        Class<?> c = BothLists.class;
        DUE.holds("public final", Modifier.isPublic(c.getModifiers()) && Modifier.isFinal(c.getModifiers()));
        Set<String> seen = new TreeSet<>();
        for (Method m : c.getDeclaredMethods()) {
            if (!Modifier.isPrivate(m.getModifiers())) {
                seen.add(signature(m));
                DUE.holds(m + " is public and no static one",
                        Modifier.isPublic(m.getModifiers()) && !Modifier.isStatic(m.getModifiers()));
            }
        }
        Set<String> names = new HashSet<>();
        for (Method m : c.getDeclaredMethods()) {
            boolean isNew = names.add(m.getName());
            DUE.holds(m + " shares its name with no other", isNew);
        }
        DUE.holds("the methods are " + seen, seen.equals(new TreeSet<>(Arrays.asList(FACE))));
        Set<String> constants = new TreeSet<>();
        for (Field f : c.getDeclaredFields()) {
            if (!Modifier.isPrivate(f.getModifiers())) {
                constants.add(f.getName());
            }
            DUE.holds(f + " is final if static",
                    !Modifier.isStatic(f.getModifiers()) || Modifier.isFinal(f.getModifiers()));
        }
        DUE.holds("the constants are " + constants,
                constants.equals(new TreeSet<>(Arrays.asList("NONE", "RANGE", "FULL", "STATE"))));
        Constructor<?>[] made = c.getDeclaredConstructors();
        DUE.holds("one public constructor",
                made.length == 1 && Modifier.isPublic(made[0].getModifiers()) && made[0].getParameterCount() == 0);
    }

    private static void innerClasses() {
        Set<String> face = new HashSet<>();
        for (String one : FACE) {
            face.add(one.substring(one.indexOf(' ') + 1, one.indexOf('(')));
        }
        Class<?>[] inside = BothLists.class.getDeclaredClasses();
        DUE.holds("some twelve classes", inside.length <= 12);
        for (Class<?> c : inside) {
            DUE.holds(c + " is static", Modifier.isStatic(c.getModifiers()));
            DUE.holds(c + " is not public", !Modifier.isPublic(c.getModifiers()) && !Modifier.isProtected(c.getModifiers()));
            DUE.holds(c + " has some twenty fields", c.getDeclaredFields().length <= 20);
            for (Method m : c.getDeclaredMethods()) {
                DUE.holds(m + " bears no name of the face", !face.contains(m.getName()));
                DUE.holds(m + " takes at most seven", m.getParameterCount() <= 7);
            }
        }
    }

    private static void source() throws Exception {
        String text = Files.readString(Path.of("src/main/java/BothLists.java"));
        String code = text.replaceAll("(?s)/\\*.*?\\*/", " ").replaceAll("//[^\n]*", " ")
                .replaceAll("\"[^\"\n]*\"", "\"\"");
        String[] ruledOut = {
            "\\bthrow\\b", "\\btry\\b", "\\bcatch\\b", "\\bsynchronized\\b", "\\bassert\\b", "->", "::",
            "\\bimport\\b", "\\bpackage\\b", "Exact\\b", "\\bprotected\\b", "\\bnative\\b", "\\bvolatile\\b",
            "hashCode", "toString", "\\bSystem\\b", "\\bThread\\b", "\\bRandom\\b", "\\bdouble\\b", "\\bfloat\\b",
            "\\bstatic\\s*\\{", "\\bwhile\\s*\\(\\s*true\\s*\\)", "for\\s*\\(\\s*;\\s*;"
        };
        for (String one : ruledOut) {
            DUE.holds("no " + one, !Pattern.compile(one).matcher(code).find());
        }
        DUE.holds("signs 1 to 127 alone", text.chars().allMatch(sign -> sign >= 1 && sign <= 127));
    }
}
