import java.lang.reflect.Constructor;
import java.lang.reflect.Field;
import java.lang.reflect.Method;
import java.lang.reflect.Modifier;
import java.util.Set;
import java.util.TreeSet;

/** The public face: what the document names and nothing else that is not private. */
final class FaceTest {
    private static final Set<String> FACE = Set.of(
        "public void RangeBox.put(int,long,long) throws java.lang.IllegalArgumentException",
        "public void RangeBox.work(int,int,int,int,boolean) throws java.lang.IllegalArgumentException",
        "public long RangeBox.exact(int,long,long,boolean) throws java.lang.IllegalArgumentException",
        "public boolean RangeBox.cut(int,int,int,boolean) throws java.lang.IllegalArgumentException",
        "public boolean RangeBox.holds(int,long,long) throws java.lang.IllegalArgumentException",
        "public long RangeBox.low(int) throws java.lang.IllegalArgumentException",
        "public long RangeBox.high(int) throws java.lang.IllegalArgumentException",
        "public RangeBox()");

    public static void main(String[] args) {
        Due due = new Due();
        Set<String> seen = new TreeSet<>();
        for (Method method : RangeBox.class.getDeclaredMethods()) {
            if (!Modifier.isPrivate(method.getModifiers())) {
                seen.add(method.toString());
            }
        }
        for (Constructor<?> constructor : RangeBox.class.getDeclaredConstructors()) {
            seen.add(constructor.toString());
        }
        for (Field field : RangeBox.class.getDeclaredFields()) {
            due.same(field + " is private", Modifier.isPrivate(field.getModifiers()), true);
        }
        due.same("the face is the document's, seen: " + seen, seen.equals(FACE), true);
        due.same("the class is final", Modifier.isFinal(RangeBox.class.getModifiers()), true);
        due.same("the class is public", Modifier.isPublic(RangeBox.class.getModifiers()), true);
        due.end();
    }
}
