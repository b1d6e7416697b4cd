import java.lang.reflect.Constructor;
import java.lang.reflect.Field;
import java.lang.reflect.Member;
import java.lang.reflect.Method;
import java.lang.reflect.Modifier;
import java.util.Arrays;
import java.util.TreeSet;

/** The class has the document's face, and nothing else that can be seen from outside. */
public final class FaceTest {
    private static final String[] FACE = {
        "public static final int LinkedIndex.FIND = 0",
        "public static final int LinkedIndex.PUT = 1",
        "public static final int LinkedIndex.TAKE = 2",
        "public static final int LinkedIndex.NEXT = 3",
        "public LinkedIndex()",
        "public void LinkedIndex.begin(int,int,long,long) throws " + Checks.ARGUMENT + "," + Checks.STATE,
        "public void LinkedIndex.step(int,int) throws " + Checks.ARGUMENT + "," + Checks.STATE,
        "public long LinkedIndex.finish(int) throws " + Checks.ARGUMENT + "," + Checks.STATE + "," + Checks.ELEMENT,
        "public boolean LinkedIndex.drop(int) throws " + Checks.ARGUMENT,
        "public void LinkedIndex.tidy(int) throws " + Checks.ARGUMENT,
        "public int LinkedIndex.crash()",
        "public int LinkedIndex.kind(int) throws " + Checks.ARGUMENT,
        "public int LinkedIndex.size()",
        "public long LinkedIndex.key(int) throws " + Checks.BOUNDS,
        "public long LinkedIndex.value(int) throws " + Checks.BOUNDS,
        "public int LinkedIndex.count(long,long)",
        "public long LinkedIndex.sum(long,long)",
    };

    public static void main(String[] args) throws IllegalAccessException {
        TreeSet<String> seen = new TreeSet<>();
        TreeSet<String> faceNames = new TreeSet<>();
        for (Field field : LinkedIndex.class.getDeclaredFields()) {
            if (isSeen(field)) {
                seen.add(field + " = " + field.get(null));
            }
        }
        for (Constructor<?> constructor : LinkedIndex.class.getDeclaredConstructors()) {
            if (isSeen(constructor)) {
                seen.add(constructor.toString());
            }
        }
        for (Method method : LinkedIndex.class.getDeclaredMethods()) {
            if (isSeen(method)) {
                seen.add(method.toString());
                faceNames.add(method.getName());
            }
        }
        Checks.due("face", seen, new TreeSet<>(Arrays.asList(FACE)));
        Checks.due("class", Modifier.toString(LinkedIndex.class.getModifiers()), "public final");
        for (Method method : LinkedIndex.class.getDeclaredMethods()) {
            if (!isSeen(method)) {
                Checks.due("a public name for private " + method, faceNames.contains(method.getName()), false);
            }
        }
        Checks.end();
    }

    private static boolean isSeen(Member member) {
        return !Modifier.isPrivate(member.getModifiers());
    }
}
