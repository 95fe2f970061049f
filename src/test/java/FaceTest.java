import java.lang.reflect.Constructor;
import java.lang.reflect.Field;
import java.lang.reflect.Method;
import java.lang.reflect.Modifier;
import java.util.Arrays;
import java.util.HashSet;
import java.util.Set;

/** The class has the document's face, and nothing else that is not private. */
public final class FaceTest {
    private static final String[] FACE = {
        "letter 1", "shop 0", "thing 2", "glad 2", "halves 2", "turn 3", "makes 3", "pairs 2", "now 1", "hands 1",
        "pours 1", "glues 3", "washes 1", "would 4", "can 1", "fewest 2", "gladness 0", "agree 1", "most 1",
        "byMinutes 1", "fewDrops 0", "together 3", "queue 1", "oneMore 0", "bestYear 0", "water 1", "bestWash 0",
        "sour 0", "regret 1", "two 2", "slip 5", "mean 4", "whatWas 2", "mended 3", "row 1", "judge 1", "clear 0",
        "lots 3", "image 0", "on 0", "count 1"};

    private final Checks checks = new Checks();

    public static void main(String[] args) {
        FaceTest t = new FaceTest();
        t.classIsPublicAndFinal();
        t.methodsAreTheFace();
        t.restIsPrivate();
        t.insideIsStatic();
        t.checks.end("FaceTest");
    }

    private void classIsPublicAndFinal() {
        int modifiers = GluedInLifetime.class.getModifiers();
        checks.holds("public", Modifier.isPublic(modifiers));
        checks.holds("final", Modifier.isFinal(modifiers));
        checks.holds("no package", GluedInLifetime.class.getPackageName().isEmpty());
        Constructor<?>[] constructors = GluedInLifetime.class.getDeclaredConstructors();
        checks.due("one constructor", constructors.length, 1);
        checks.holds("public constructor", Modifier.isPublic(constructors[0].getModifiers()));
        checks.due("constructor's parameters", constructors[0].getParameterCount(), 0);
    }

    private void methodsAreTheFace() {
        Set<String> want = new HashSet<>(Arrays.asList(FACE));
        checks.due("methods of the face", want.size(), 41);
        int found = 0;
        for (Method m : GluedInLifetime.class.getDeclaredMethods()) {
            if (Modifier.isPublic(m.getModifiers())) {
                found++;
                checks.holds(m + " is of the face", want.contains(m.getName() + " " + m.getParameterCount()));
                checks.holds(m + " takes ints", Arrays.stream(m.getParameterTypes()).allMatch(p -> p == int.class));
                boolean isLong = m.getName().equals("slip") || m.getName().equals("mean");
                checks.holds(m + " answers as told", m.getReturnType() == (isLong ? long.class : int.class));
                checks.holds(m + " is of an object", !Modifier.isStatic(m.getModifiers()));
            }
        }
        checks.due("methods found", found, 41);
    }

    private void restIsPrivate() {
        Set<String> names = new HashSet<>();
        for (String each : FACE) {
            names.add(each.split(" ")[0]);
        }
        for (Method m : GluedInLifetime.class.getDeclaredMethods()) {
            if (!Modifier.isPublic(m.getModifiers()) && !m.isSynthetic()) {
                checks.holds(m + " is private", Modifier.isPrivate(m.getModifiers()));
                checks.holds(m + " has a name of its own", !names.contains(m.getName()));
            }
        }
        for (Class<?> c : GluedInLifetime.class.getDeclaredClasses()) {
            for (Method m : c.getDeclaredMethods()) {
                checks.holds(m + " has a name of its own", !names.contains(m.getName()));
            }
        }
        for (Field f : GluedInLifetime.class.getDeclaredFields()) {
            checks.holds(f + " is private", Modifier.isPrivate(f.getModifiers()) || f.isSynthetic());
            checks.holds(f + " is final, if static", !Modifier.isStatic(f.getModifiers())
                    || Modifier.isFinal(f.getModifiers()) || f.isSynthetic());
        }
    }

    private void insideIsStatic() {
        Class<?>[] inside = GluedInLifetime.class.getDeclaredClasses();
        checks.holds("some twelve classes at most", inside.length <= 12);
        for (Class<?> c : inside) {
            checks.holds(c + " is static", Modifier.isStatic(c.getModifiers()));
            checks.holds(c + " is not public", !Modifier.isPublic(c.getModifiers()));
            checks.holds(c + " is not protected", !Modifier.isProtected(c.getModifiers()));
            checks.holds(c + " has some twenty fields at most", c.getDeclaredFields().length <= 20);
        }
    }
}
