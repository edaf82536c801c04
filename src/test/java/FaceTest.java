import java.lang.reflect.Constructor;
import java.lang.reflect.Field;
import java.lang.reflect.Method;
import java.lang.reflect.Modifier;
import java.util.Arrays;
import java.util.TreeSet;

/** The document's public face, and no member beside it that is not private. */
public final class FaceTest {
    public static void main(String[] args) {
        String[] due = {
            "public boolean PagedHart.called()",
            "public int PagedHart.control(int) throws java.util.NoSuchElementException",
            "public int PagedHart.peek(int) throws java.lang.IndexOutOfBoundsException",
            "public int PagedHart.register(int) throws java.lang.IndexOutOfBoundsException",
            "public int PagedHart.run(int) throws java.lang.IllegalArgumentException",
            "public int PagedHart.translate(int,int) throws java.lang.IllegalArgumentException",
            "public void PagedHart.poke(int,int) throws java.lang.IndexOutOfBoundsException",
            "public void PagedHart.pokeFour(int,int,int,int,int) throws java.lang.IndexOutOfBoundsException",
            "public void PagedHart.setControl(int,int) throws java.util.NoSuchElementException",
            "public void PagedHart.setRegister(int,int) throws java.lang.IndexOutOfBoundsException",
            "public static final int PagedHart.NONE",
            "public PagedHart()",
        };
        TreeSet<String> found = new TreeSet<>();
        for (Method m : PagedHart.class.getDeclaredMethods()) {
            keep(found, m.getModifiers(), m.toString());
        }
        for (Field f : PagedHart.class.getDeclaredFields()) {
            keep(found, f.getModifiers(), f.toString());
        }
        for (Constructor<?> c : PagedHart.class.getDeclaredConstructors()) {
            keep(found, c.getModifiers(), c.toString());
        }
        TreeSet<String> wanted = new TreeSet<>(Arrays.asList(due));
        for (String one : wanted) {
            Check.same("there is " + one, found.contains(one), true);
        }
        for (String one : found) {
            Check.same("asked for is " + one, wanted.contains(one), true);
        }
        int m = PagedHart.class.getModifiers();
        Check.same("a public class", Modifier.isPublic(m), true);
        Check.same("a final class", Modifier.isFinal(m), true);
        Check.done();
    }

    private static void keep(TreeSet<String> found, int modifiers, String text) {
        if (!Modifier.isPrivate(modifiers)) {
            found.add(text);
        }
    }
}
