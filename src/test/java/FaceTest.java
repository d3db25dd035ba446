import java.lang.reflect.Constructor;
import java.lang.reflect.Field;
import java.lang.reflect.Member;
import java.lang.reflect.Method;
import java.lang.reflect.Modifier;
import java.util.ArrayList;
import java.util.Collections;
import java.util.List;

/** The public face is the document's, and nothing else of the class can be reached from outside. */
public final class FaceTest {
    private static final String[] FACE = {
        "int setGlass(int,int) IndexOutOfBoundsException IllegalArgumentException",
        "boolean setRain(int,boolean) IndexOutOfBoundsException",
        "int sign(int,int) IllegalArgumentException IllegalStateException",
        "int join() IllegalStateException",
        "int weigh(int,int,int) IndexOutOfBoundsException IllegalArgumentException",
        "int share(int,int) IndexOutOfBoundsException IllegalArgumentException IllegalStateException",
        "boolean says(int,int) IndexOutOfBoundsException IllegalArgumentException",
        "int told(int,int) IndexOutOfBoundsException",
        "int weight(int,int) IndexOutOfBoundsException",
        "int about(int,int) IndexOutOfBoundsException",
        "int at(int) IndexOutOfBoundsException",
        "int count(int) IndexOutOfBoundsException",
        "int pass(int) IllegalArgumentException",
        "int foresee(int,int) IllegalArgumentException IndexOutOfBoundsException",
        "int overtakes(int,int) IndexOutOfBoundsException IllegalArgumentException",
        "int advise(int,int) IndexOutOfBoundsException IllegalArgumentException",
        "int best()",
        "double mean()",
        "long digest()",
    };

    private static String names(Class<?>[] types, String between) {
        List<String> all = new ArrayList<>();
        for (Class<?> type : types) {
            all.add(type.getSimpleName());
        }
        return String.join(between, all);
    }

    private static String face(Method m) {
        String head = m.getReturnType().getSimpleName() + " " + m.getName();
        return (head + "(" + names(m.getParameterTypes(), ",") + ") " + names(m.getExceptionTypes(), " ")).trim();
    }

    private static boolean isOpen(Member m) {
        return !m.isSynthetic() && !Modifier.isPrivate(m.getModifiers());
    }

    public static void main(String[] args) {
        Class<BarometerLeague> league = BarometerLeague.class;
        Check.equal("modifiers", league.getModifiers(), Modifier.PUBLIC | Modifier.FINAL);
        List<String> open = new ArrayList<>();
        List<String> hidden = new ArrayList<>();
        for (Method m : league.getDeclaredMethods()) {
            (isOpen(m) ? open : hidden).add(isOpen(m) ? face(m) : m.getName());
            Check.isTrue(m.getName() + " is public or private", !isOpen(m) || Modifier.isPublic(m.getModifiers()));
        }
        Collections.sort(open);
        List<String> due = new ArrayList<>(List.of(FACE));
        Collections.sort(due);
        Check.equal("methods", open, due);
        for (String line : FACE) {
            String name = line.substring(line.indexOf(' ') + 1, line.indexOf('('));
            Check.isTrue("no private method is named " + name, !hidden.contains(name));
        }
        for (Field f : league.getDeclaredFields()) {
            Check.isTrue(f.getName() + " is private", !isOpen(f));
        }
        Constructor<?>[] constructors = league.getDeclaredConstructors();
        Check.equal("constructors", constructors.length, 1);
        Check.isTrue("a public one without parameters", Modifier.isPublic(constructors[0].getModifiers())
                && constructors[0].getParameterCount() == 0);
        for (Class<?> inside : league.getDeclaredClasses()) {
            Check.isTrue(inside + " is private and static",
                    (inside.getModifiers() & (Modifier.PRIVATE | Modifier.STATIC)) == (Modifier.PRIVATE | Modifier.STATIC));
        }
        Check.finish();
    }
}
