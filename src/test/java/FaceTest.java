import java.lang.reflect.Constructor;
import java.lang.reflect.Field;
import java.lang.reflect.Method;
import java.lang.reflect.Modifier;
import java.util.Arrays;
import java.util.Set;
import java.util.TreeSet;
import java.util.stream.Collectors;

/** The public face of the document, and nothing beside it. */
public final class FaceTest {
    private static final Due due = new Due("FaceTest");

    private static final String[] METHODS = {"int begin(int,int)", "int trader(int,long)",
        "long price(int)", "long quote(int,int,int)", "int barred(int,int,int)",
        "int deal(int,int,int)", "int comes(int)", "long about(int,int)", "long maker(int)",
        "long of(int,int)", "int believe(int,int,int)", "int beliefs(int,int,int,int)",
        "long worth(int,int,int)", "long best(int,int)", "int offer(int,int,int)",
        "int most(int,int)", "int sure()", "int bundle(int)", "int forecast(int,int,int,int)",
        "long score(int,int)", "long honest(int,int,int)", "long held(int,int,int)",
        "int sheet(int,int,int)", "int lose(int)", "int put(int,int,int)", "long at(int,int,int)",
        "int tell(int)", "int greet(int)", "int as(int,int)", "int trace()", "int fault()",
        "int told(int)"};

    public static void main(String[] args) throws ReflectiveOperationException {
        constants();
        methods();
        restIsPrivate();
        nestedClasses();
        due.close();
    }

    private static void constants() throws ReflectiveOperationException {
        due.is("UNKNOWN", BetMaker.UNKNOWN, -1);
        due.is("OUTSIDE", BetMaker.OUTSIDE, -2);
        due.is("STATE", BetMaker.STATE, -3);
        due.is("FULL", BetMaker.FULL, -4);
        due.is("NONE", BetMaker.NONE, -9);
        due.is("LOST", BetMaker.LOST, Long.MIN_VALUE);
        due.holds("LOST is a long", BetMaker.class.getField("LOST").getType() == long.class);
        for (String name : new String[] {"UNKNOWN", "OUTSIDE", "STATE", "FULL", "NONE"}) {
            due.holds(name + " is an int", BetMaker.class.getField(name).getType() == int.class);
        }
    }

    private static String face(Method m) {
        return m.getReturnType() + " " + m.getName() + Arrays.stream(m.getParameterTypes())
            .map(Class::toString).collect(Collectors.joining(",", "(", ")"));
    }

    private static void methods() {
        Set<String> there = new TreeSet<>();
        Set<String> hidden = new TreeSet<>();
        for (Method m : BetMaker.class.getDeclaredMethods()) {
            if (Modifier.isPublic(m.getModifiers())) {
                there.add(face(m));
                due.holds(m + " is an object's", !Modifier.isStatic(m.getModifiers()));
            } else {
                hidden.add(m.getName());
            }
        }
        due.holds("the methods are " + there, there.equals(new TreeSet<>(Arrays.asList(METHODS))));
        for (String name : hidden) {
            due.holds(name + " is no public name",
                Arrays.stream(METHODS).noneMatch(m -> m.contains(" " + name + "(")));
        }
    }

    private static void restIsPrivate() {
        int mods = BetMaker.class.getModifiers();
        due.holds("public final", Modifier.isPublic(mods) && Modifier.isFinal(mods));
        due.is("constructors", BetMaker.class.getDeclaredConstructors().length, 1);
        for (Constructor<?> c : BetMaker.class.getDeclaredConstructors()) {
            due.holds("public, without arguments",
                Modifier.isPublic(c.getModifiers()) && c.getParameterCount() == 0);
        }
        int open = 0;
        for (Field f : BetMaker.class.getDeclaredFields()) {
            open += Modifier.isPrivate(f.getModifiers()) ? 0 : 1;
            due.holds(f + " is final where static",
                !Modifier.isStatic(f.getModifiers()) || Modifier.isFinal(f.getModifiers()));
        }
        due.is("open fields", open, 6);
        for (Method m : BetMaker.class.getDeclaredMethods()) {
            due.holds(m + " is public or private",
                Modifier.isPublic(m.getModifiers()) || Modifier.isPrivate(m.getModifiers()));
        }
    }

    private static void nestedClasses() {
        Class<?>[] nested = BetMaker.class.getDeclaredClasses();
        due.holds("at most twelve classes", nested.length < 12);
        for (Class<?> c : nested) {
            int mods = c.getModifiers();
            due.holds(c + " is static", Modifier.isStatic(mods));
            due.holds(c + " is closed", !Modifier.isPublic(mods) && !Modifier.isProtected(mods));
            long fields = Arrays.stream(c.getDeclaredFields())
                .filter(f -> !Modifier.isStatic(f.getModifiers())).count();
            due.holds(c + " has few fields", fields <= 20);
        }
    }
}
