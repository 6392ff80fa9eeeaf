import java.lang.reflect.Constructor;
import java.lang.reflect.Field;
import java.lang.reflect.Method;
import java.lang.reflect.Modifier;
import java.util.ArrayList;
import java.util.Arrays;
import java.util.HashSet;
import java.util.List;
import java.util.Set;
import java.util.TreeSet;

/** The class has the document's face and no other, and its inner form keeps to LANGUAGE.md's rules 1, 2, 5. */
public final class FaceTest {
    private static final String[] FACE = {
        "int feed(int,int,int,int,int)", "int end(int)", "int house()", "int fault(int)", "int member(int,int)",
        "int bill(int,int)", "int vote(int,int)", "int shake(int)", "int shelve(int,int)", "int join(int,int)",
        "int day()", "boolean undo()", "boolean redo()", "int will(int,int)", "int dull(int)", "int pass()",
        "int muster(int,int)", "int latest(int,int)", "int plan()", "int power(int,int,int)", "int best(int)",
        "int joint(int,int)", "int law(int)", "int odds(int,int,int)", "int mean(int,int,int)",
        "int ripe(int,int,int)", "int queue(int)", "int spoil(int)", "int sabotage(int)", "int wasted()",
        "int richest()", "int matches()", "int brittle()", "int longest(int)", "int lies(int)",
        "int sniffed(int,int,boolean)", "boolean untell(int)", "int later(int)", "int fits(int)",
        "int sure(int,int)", "int ask(int,int)", "int image(int)", "int back(int)", "int about(int)"};

    public static void main(String[] args) {
        Due.topic("face");
        Due.is("public and final", AyeJars.class.getModifiers(), Modifier.PUBLIC | Modifier.FINAL);
        methods();
        fields();
        nested();
        Due.close("FaceTest");
    }

    private static void methods() {
        Set<String> due = new TreeSet<>(Arrays.asList(FACE));
        Set<String> got = new TreeSet<>();
        for (Method m : AyeJars.class.getDeclaredMethods()) {
            if (!Modifier.isPrivate(m.getModifiers())) {
                List<String> types = new ArrayList<>();
                for (Class<?> c : m.getParameterTypes()) {
                    types.add(c.getName());
                }
                got.add(m.getReturnType().getName() + " " + m.getName() + "(" + String.join(",", types) + ")");
                Due.is(m.getName() + " is public alone", m.getModifiers(), Modifier.PUBLIC);
            }
        }
        Due.is("methods " + got, got.equals(due), true);
        Constructor<?>[] made = AyeJars.class.getDeclaredConstructors();
        Due.is("constructors", made.length, 1);
        Due.is("its parameters", made[0].getParameterCount(), 0);
        Due.is("public", made[0].getModifiers(), Modifier.PUBLIC);
    }

    private static void fields() {
        for (Field f : AyeJars.class.getDeclaredFields()) {
            boolean isNone = f.getName().equals("NONE");
            Due.is(f.getName() + " is public", Modifier.isPublic(f.getModifiers()), isNone);
            Due.is(f.getName() + " is private", Modifier.isPrivate(f.getModifiers()), !isNone);
        }
    }

    private static void nested() {
        Set<String> names = new HashSet<>();
        for (String signature : FACE) {
            names.add(signature.substring(signature.indexOf(' ') + 1, signature.indexOf('(')));
        }
        Due.is("some twelve classes", AyeJars.class.getDeclaredClasses().length <= 12, true);
        for (Method m : AyeJars.class.getDeclaredMethods()) {
            Due.is(m.getName(), Modifier.isPrivate(m.getModifiers()) && names.contains(m.getName()), false);
        }
        for (Class<?> c : AyeJars.class.getDeclaredClasses()) {
            int open = Modifier.PUBLIC | Modifier.PROTECTED;
            Due.is(c.getName() + " is static", Modifier.isStatic(c.getModifiers()), true);
            Due.is(c.getName() + " is hidden", c.getModifiers() & open, 0);
            for (Method m : c.getDeclaredMethods()) {
                Due.is(c.getName() + "." + m.getName() + " has a name of its own", names.contains(m.getName()), false);
                Due.is(m.getName() + " takes 7 at most", m.getParameterCount() <= 7, true);
            }
            int own = 0;
            for (Field f : c.getDeclaredFields()) {
                own += Modifier.isStatic(f.getModifiers()) ? 0 : 1;
                Due.is(f.getName() + " is no static state", Modifier.isStatic(f.getModifiers())
                        && !Modifier.isFinal(f.getModifiers()), false);
            }
            Due.is(c.getName() + " has some twenty fields", own <= 20, true);
        }
    }
}
