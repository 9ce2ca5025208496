import java.lang.reflect.Constructor;
import java.lang.reflect.Field;
import java.lang.reflect.Member;
import java.lang.reflect.Method;
import java.lang.reflect.Modifier;
import java.util.Set;
import java.util.TreeSet;

/** The document's face, and no other member that can be seen from outside (LANGUAGE.md, rules 1, 2 and 5). */
public final class FaceTest {
    private static final Check c = new Check("FaceTest");
    private static final String[] FACE = {
        "int device(int,int,int)", "int plug(int,boolean)", "int row(int,int)", "int calibrate(int,int,int,int)",
        "long offset(int,int)", "long drive(int,int,int,int)", "int kindOf(int,int)", "int listener(int)",
        "int script(int,int,int)", "int limen(int,int,int,int)", "int seed(int,int,int)", "int listenerOf(int,int)",
        "int test(int,int,int,int)", "int rule(int,int,int)", "int noise(int,int)", "int step(int)",
        "int run(int,int)", "int told(int,int)", "int tone(int,int)", "int answer(int,int)", "int turn(int,int)",
        "int threshold(int)", "int rate(int)", "int unsure(int)", "int plateau(int,int,int,int,int,int)",
        "int plateauOf(int)", "int replay(int)", "int chart()", "int enter(int,int)",
        "int put(int,int,int,int,long)", "long at(int,int,int,int)", "int between(int,int,int,int)",
        "int marked(int,int,int,int)", "long mean(int,int,int,int)", "int lacking(int,int,int,int)",
        "long gap(int,int,int)", "int change(int,int,int,int,int,int)", "int compare(int,int,int,int,int)",
        "int order(int,int,int,int)", "int silent(int)", "int findings(int)", "int finding()", "int trace(int)",
        "int count(int)", "int status()", "long digest()"};

    /** Types of constants (rule 5), of those that the program could have. */
    private static final Set<Class<?>> CONSTANTS = Set.of(int.class, long.class, boolean.class, char.class,
        int[].class, long[].class, char[].class, byte[].class);

    public static void main(String[] args) {
        Class<?> room = HearingRoom.class;
        c.due("public final", room.getModifiers() & (Modifier.PUBLIC | Modifier.FINAL), Modifier.PUBLIC | Modifier.FINAL);
        Set<String> names = new TreeSet<>();
        Set<String> open = new TreeSet<>();
        for (Method m : room.getDeclaredMethods()) {
            if (!isHidden(m)) open.add(told(m));
            if (!isHidden(m)) names.add(m.getName());
        }
        c.due("methods of the face", open.equals(new TreeSet<>(Set.of(FACE))) ? 1 : 0, 1);
        c.due("46 methods", open.size(), 46);
        Constructor<?>[] makers = room.getDeclaredConstructors();
        c.due("one constructor", makers.length, 1);
        c.due("it is public", makers[0].getModifiers(), Modifier.PUBLIC);
        c.due("without arguments", makers[0].getParameterCount(), 0);
        Set<String> constants = new TreeSet<>();
        for (Field f : room.getDeclaredFields()) if (!isHidden(f)) constants.add(f.getName());
        c.due("constants", constants.equals(new TreeSet<>(Set.of("NOTHING", "BAD", "FULL", "STATE"))) ? 1 : 0, 1);
        c.due("NOTHING", HearingRoom.NOTHING, -1000);
        c.due("BAD", HearingRoom.BAD, -1001);
        c.due("FULL", HearingRoom.FULL, -1002);
        c.due("STATE", HearingRoom.STATE, -1003);
        dueHiddenNames(room, names);
        dueStatics(room);
        for (Class<?> inside : room.getDeclaredClasses()) {
            c.due(inside + " is static", Modifier.isStatic(inside.getModifiers()) ? 1 : 0, 1);
            dueHiddenNames(inside, names);
            dueStatics(inside);
        }
        c.due("at most twelve classes", room.getDeclaredClasses().length < 12 ? 1 : 0, 1);
        c.end();
    }

    private static boolean isHidden(Member m) {
        return Modifier.isPrivate(m.getModifiers()) || m.isSynthetic();
    }

    private static String told(Method m) {
        StringBuilder b = new StringBuilder(m.getReturnType().getName() + " " + m.getName() + "(");
        for (int i = 0; i < m.getParameterCount(); i++) {
            b.append(i == 0 ? "" : ",").append(m.getParameterTypes()[i].getName());
        }
        return b.append(')').toString();
    }

    private static void dueHiddenNames(Class<?> of, Set<String> taken) {
        for (Method m : of.getDeclaredMethods()) {
            boolean face = of == HearingRoom.class && !isHidden(m);
            c.due(m + " bears a name of the face", !face && taken.contains(m.getName()) ? 1 : 0, 0);
            c.due(m + " takes more than seven", m.getParameterCount() > 7 ? 1 : 0, 0);
        }
    }

    private static void dueStatics(Class<?> of) {
        int own = 0;
        for (Field f : of.getDeclaredFields()) {
            boolean fixed = Modifier.isStatic(f.getModifiers());
            if (!fixed) own++;
            if (fixed) c.due(f + " is final", Modifier.isFinal(f.getModifiers()) ? 1 : 0, 1);
            if (fixed) c.due(f + " is a constant of a type that may be one", CONSTANTS.contains(f.getType()) ? 1 : 0, 1);
        }
        c.due(of + " has more than twenty fields", own > 20 ? 1 : 0, 0);
    }
}
