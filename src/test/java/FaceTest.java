import java.lang.reflect.Constructor;
import java.lang.reflect.Field;
import java.lang.reflect.Method;
import java.lang.reflect.Modifier;
import java.util.ArrayList;
import java.util.Arrays;
import java.util.Collections;
import java.util.HashSet;
import java.util.List;
import java.util.Set;

/** The face of the class is the document's, and nothing else in it can be seen: rule 1 of ../shared/LANGUAGE.md. */
public final class FaceTest {
    private static final Check CHECK = new Check();

    private static final String[] METHODS = {
        "int write 1", "int wipe 0", "int fault 0", "int lay 0", "int value 2", "int set 3", "int lose 2",
        "int penalty 1", "int rule 2", "int undo 0", "int day 2", "int nearest 2", "int pair 2", "int entry 3",
        "int year 3", "long spread 4", "int split 3", "long cost 2", "long spreads 3", "int breaks 3", "int least 3",
        "int votes 2", "int culprit 2", "int mend 1", "int mends 0", "int ledger 2", "int made 2", "int make 2",
        "int rise 1", "int count 1",
    };
    private static final String[] CONSTANTS = {"BAD", "NO", "FULL", "NONE", "ZERO"};

    public static void main(String[] args) {
        methods();
        constants();
        constructors();
        nestedClasses();
        CHECK.end();
    }

    private static void methods() {
        List<String> seen = new ArrayList<>();
        Set<String> hidden = new HashSet<>();
        for (Method m : ShiftMender.class.getDeclaredMethods()) {
            if (Modifier.isPrivate(m.getModifiers())) {
                hidden.add(m.getName());
            } else {
                seen.add(m.getReturnType() + " " + m.getName() + " " + m.getParameterCount());
                CHECK.holds(m + " is public and nothing else", m.getModifiers() == Modifier.PUBLIC);
                CHECK.holds(m + " takes ints", Arrays.stream(m.getParameterTypes()).allMatch(t -> t == int.class));
                CHECK.due("exceptions of " + m, m.getExceptionTypes().length, 0);
            }
        }
        for (Class<?> c : ShiftMender.class.getDeclaredClasses()) {
            for (Method m : c.getDeclaredMethods()) {
                if (Modifier.isPrivate(m.getModifiers())) {
                    hidden.add(m.getName());
                }
            }
        }
        List<String> due = new ArrayList<>(List.of(METHODS));
        Collections.sort(seen);
        Collections.sort(due);
        CHECK.holds("the methods are those of the document: " + seen, seen.equals(due));
        for (String method : METHODS) {
            CHECK.holds("no private method is named as " + method, !hidden.contains(method.split(" ")[1]));
        }
    }

    private static void constants() {
        List<String> seen = new ArrayList<>();
        for (Field f : ShiftMender.class.getDeclaredFields()) {
            if (!Modifier.isPrivate(f.getModifiers())) {
                seen.add(f.getName());
                int constant = Modifier.PUBLIC | Modifier.STATIC | Modifier.FINAL;
                CHECK.holds(f + " is a public constant", f.getModifiers() == constant && f.getType() == int.class);
            } else if (Modifier.isStatic(f.getModifiers())) {
                CHECK.holds(f + " is final", Modifier.isFinal(f.getModifiers()));
            }
        }
        Collections.sort(seen);
        String[] due = CONSTANTS.clone();
        Arrays.sort(due);
        CHECK.holds("the constants are those of the document: " + seen, seen.equals(List.of(due)));
    }

    private static void constructors() {
        int modifiers = ShiftMender.class.getModifiers();
        CHECK.due("the class is public and final", modifiers, Modifier.PUBLIC | Modifier.FINAL);
        CHECK.holds("it extends nothing", ShiftMender.class.getSuperclass() == Object.class);
        CHECK.due("interfaces", ShiftMender.class.getInterfaces().length, 0);
        Constructor<?>[] all = ShiftMender.class.getDeclaredConstructors();
        CHECK.due("constructors", all.length, 1);
        CHECK.due("the constructor is public", all[0].getModifiers(), Modifier.PUBLIC);
        CHECK.due("what it takes", all[0].getParameterCount(), 0);
    }

    private static void nestedClasses() {
        Class<?>[] nested = ShiftMender.class.getDeclaredClasses();
        for (Class<?> c : nested) {
            int modifiers = c.getModifiers();
            CHECK.holds(c + " is private or package-visible, and static",
                !Modifier.isPublic(modifiers) && !Modifier.isProtected(modifiers) && Modifier.isStatic(modifiers));
        }
    }
}
