import java.io.IOException;
import java.lang.reflect.Constructor;
import java.lang.reflect.Field;
import java.lang.reflect.Member;
import java.lang.reflect.Method;
import java.lang.reflect.Modifier;
import java.nio.file.Files;
import java.nio.file.Path;
import java.util.ArrayList;
import java.util.List;
import java.util.TreeSet;

/** The public face, word for word, and those rules of LANGUAGE.md that can be seen from the text. */
final class FaceTest {
    private static final String INDEX = "IndexOutOfBoundsException";
    private static final String ARGUMENT = "IllegalArgumentException";
    private static final String STATE = "IllegalStateException";

    public static void main(String[] args) throws IOException {
        Bench.expect("the class", Modifier.toString(ControlBench.class.getModifiers()), "public final");
        Bench.expect("the face", String.join("\n", seen()), String.join("\n", due()));
        nothingElseIsVisible();
        textKeepsToTheLanguage(Files.readString(Path.of("src/main/java/ControlBench.java")));
        Bench.finish();
    }

    private static TreeSet<String> due() {
        String all = INDEX + "," + ARGUMENT + "," + STATE;
        String two = INDEX + "," + ARGUMENT;
        TreeSet<String> face = new TreeSet<>(List.of(
            "ControlBench() ",
            "void setPlant(int,int,int,int,int) " + two, "int setLoad(int,int) " + two,
            "int setGains(int,int,int,int) " + all, "int addPoint(int,int,int,int,int) " + all,
            "void setLimits(int,int,int) " + two, "int setGuard(int,int,int) " + two,
            "int setSetpoint(int,int) " + all, "int setHand(int,int) " + all,
            "void setTies(int,boolean,boolean) " + all, "int setMode(int,int) " + all, "int run(int) " + ARGUMENT,
            "int gain(int,int) " + INDEX, "int mode(int) " + INDEX, "boolean wasStarved(int) " + INDEX,
            "int held(int) " + INDEX, "void startRelay(int,int,int) " + all, "int experiment(int) " + INDEX,
            "int period(int) " + INDEX + "," + STATE, "long swing(int) " + INDEX + "," + STATE,
            "int ultimateGain(int) " + INDEX + "," + STATE, "int proposed(int,int,int) " + all));
        for (String name : new String[] {"measure", "output", "outputByIncrements", "setpoint", "integral"}) {
            face.add("long " + name + "(int) " + INDEX);
        }
        return face;
    }

    private static TreeSet<String> seen() {
        TreeSet<String> face = new TreeSet<>();
        for (Method m : ControlBench.class.getDeclaredMethods()) {
            if (Modifier.isPublic(m.getModifiers())) {
                face.add(m.getReturnType().getSimpleName() + " " + m.getName() + names(m.getParameterTypes(), "(", ") ")
                    + names(m.getExceptionTypes(), "", ""));
            }
        }
        for (Constructor<?> c : ControlBench.class.getDeclaredConstructors()) {
            face.add(c.getName() + names(c.getParameterTypes(), "(", ") ") + names(c.getExceptionTypes(), "", ""));
        }
        return face;
    }

    private static String names(Class<?>[] types, String ahead, String behind) {
        List<String> all = new ArrayList<>();
        for (Class<?> type : types) {
            all.add(type.getSimpleName());
        }
        return ahead + String.join(",", all) + behind;
    }

    private static void nothingElseIsVisible() {
        TreeSet<String> publicNames = new TreeSet<>();
        for (Method m : ControlBench.class.getDeclaredMethods()) {
            if (Modifier.isPublic(m.getModifiers())) {
                publicNames.add(m.getName());
            } else {
                isPrivate(m);
            }
        }
        for (Method m : ControlBench.class.getDeclaredMethods()) {
            if (Modifier.isPrivate(m.getModifiers()) && publicNames.contains(m.getName())) {
                Bench.expect(m.getName(), "a private method", "no private method of a public one's name");
            }
        }
        for (Field f : ControlBench.class.getDeclaredFields()) {
            isPrivate(f);
        }
        for (Class<?> inside : ControlBench.class.getDeclaredClasses()) {
            constructorsAreHandedNothing(inside);
            for (Field f : inside.getDeclaredFields()) {
                if (Modifier.isStatic(f.getModifiers()) && !Modifier.isFinal(f.getModifiers())) {
                    Bench.expect(f.toString(), "static", "no static state");
                }
            }
        }
    }

    /** So that no constructor can hand out a part of the object that it makes (rule 12). */
    private static void constructorsAreHandedNothing(Class<?> inside) {
        for (Constructor<?> c : inside.getDeclaredConstructors()) {
            if (c.getParameterCount() != 0) {
                Bench.expect(c.toString(), "is handed something", "is handed nothing");
            }
        }
    }

    private static void isPrivate(Member m) {
        if (!m.isSynthetic() && !Modifier.isPrivate(m.getModifiers())) {
            Bench.expect(m.toString(), "visible", "private");
        }
    }

    private static void textKeepsToTheLanguage(String text) {
        for (String word : new String[] {"import ", "->", "::", "Exact", "finally", "catch", "synchronized", "assert ",
            "double", "float", "\t"}) {
            if (text.contains(word)) {
                Bench.expect("the text", "holds " + word, "without it");
            }
        }
        for (int n = 0; n < text.length(); n++) {
            if (text.charAt(n) > 127) {
                Bench.expect("the text", "a sign above 127", "none");
            }
        }
    }
}
