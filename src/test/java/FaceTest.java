import java.lang.reflect.Constructor;
import java.lang.reflect.Field;
import java.lang.reflect.Method;
import java.lang.reflect.Modifier;
import java.util.Arrays;
import java.util.Set;
import java.util.TreeSet;

/** The class has the public face of the document, and no other member that is not private. */
public final class FaceTest {
    private static final Check CHECK = new Check();

    public static void main(String[] args) throws Exception {
        constants();
        methods();
        CHECK.end("FaceTest");
    }

    private static void constants() throws Exception {
        String[] names = {"NO_SUCH", "BAD_VALUE", "BAD_TEXT", "TOO_MANY", "NOT_POSSIBLE", "NONE", "KIND", "LEVEL", "HYST",
            "LOW", "HIGH", "DEPTH", "PRE", "HOLD", "KEEP", "OVER", "RISES", "FALLS", "RUNTS"};
        int[] values = {-1, -2, -3, -4, -5, -6, 0, 1, 2, 3, 4, 5, 6, 7, 8, 9, 0, 1, 2};
        for (int i = 0; i < names.length; i++) {
            Field field = CaptureSegments.class.getField(names[i]);
            CHECK.due(names[i], field.getInt(null), values[i]);
            CHECK.due(names[i] + " is static, final and an int", Modifier.isStatic(field.getModifiers())
                && Modifier.isFinal(field.getModifiers()) && field.getType() == int.class);
        }
        for (Field field : CaptureSegments.class.getDeclaredFields()) {
            CHECK.due("field " + field.getName(), Modifier.isPrivate(field.getModifiers())
                || Arrays.asList(names).contains(field.getName()));
        }
    }

    private static void methods() {
        Set<String> want = new TreeSet<>(Arrays.asList("set(int,int)", "feed(int,int)", "clear()", "drop(int)",
            "segment(int,int)", "sampleOf(int,int)", "sample(int)", "count(int)", "fires(int)", "bestLevel(int)",
            "unlike(int,int)", "nearest(int)", "put(long)", "wipe()", "fault()", "carryOut()", "undo()", "save(int)",
            "restore(int)"));
        Set<String> publicNames = new TreeSet<>();
        Set<String> got = new TreeSet<>();
        for (Method method : CaptureSegments.class.getDeclaredMethods()) {
            if (!Modifier.isPrivate(method.getModifiers())) {
                got.add(method.toString().replaceAll(".*CaptureSegments\\.", ""));
                publicNames.add(method.getName());
                CHECK.due(method + " is public and answers an int", Modifier.isPublic(method.getModifiers())
                    && !Modifier.isStatic(method.getModifiers()) && method.getReturnType() == int.class);
            }
        }
        CHECK.due("methods " + got, got.equals(want));
        for (Class<?> inside : CaptureSegments.class.getDeclaredClasses()) {
            CHECK.due(inside + " is static, not public", Modifier.isStatic(inside.getModifiers())
                && !Modifier.isPublic(inside.getModifiers()) && !Modifier.isProtected(inside.getModifiers()));
            for (Method method : inside.getDeclaredMethods()) {
                CHECK.due(method + " has a name of its own", !publicNames.contains(method.getName()));
            }
        }
        for (Method method : CaptureSegments.class.getDeclaredMethods()) {
            CHECK.due(method + " has a name of its own", Modifier.isPublic(method.getModifiers())
                || !publicNames.contains(method.getName()));
        }
        Constructor<?>[] constructors = CaptureSegments.class.getDeclaredConstructors();
        CHECK.due("constructors", constructors.length, 1);
        CHECK.due("it is public, without arguments", Modifier.isPublic(constructors[0].getModifiers())
            && constructors[0].getParameterCount() == 0);
        CHECK.due("the class is public and final", Modifier.isPublic(CaptureSegments.class.getModifiers())
            && Modifier.isFinal(CaptureSegments.class.getModifiers()));
    }
}
