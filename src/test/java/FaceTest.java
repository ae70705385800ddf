import java.lang.reflect.Constructor;
import java.lang.reflect.Field;
import java.lang.reflect.Method;
import java.lang.reflect.Modifier;
import java.util.Set;
import java.util.TreeSet;

/** "The public face" and the constants: the members of the document, and no others that can be seen. */
public final class FaceTest {
    private static final String[] FACE = {
        "public FireWards(int,int)",
        "public boolean FireWards.house(int,int,int) throws java.util.NoSuchElementException",
        "public boolean FireWards.well(int,boolean) throws java.util.NoSuchElementException",
        "public int FireWards.wind(int) throws java.lang.IllegalArgumentException",
        "public int FireWards.company(int,int,int) throws java.util.NoSuchElementException",
        "public int FireWards.feed(int,int,int,int,int)",
        "public int FireWards.law(int,int) throws java.lang.IllegalArgumentException",
        "public int FireWards.fault()",
        "public int FireWards.light(int) throws java.util.NoSuchElementException",
        "public boolean FireWards.send(int,int) throws java.util.NoSuchElementException",
        "public boolean FireWards.pull(int,int) throws java.util.NoSuchElementException",
        "public int FireWards.hours(int) throws java.lang.IllegalArgumentException",
        "public int FireWards.cell(int,int) throws java.util.NoSuchElementException",
        "public int FireWards.of(int,int) throws java.util.NoSuchElementException",
        "public int FireWards.breaks(int) throws java.util.NoSuchElementException",
        "public int FireWards.breaker(int) throws java.util.NoSuchElementException",
        "public int FireWards.count(int) throws java.util.NoSuchElementException",
        "public static final int FireWards.NONE",
    };

    public static void main(String[] args) {
        Due.says("The constants: `NONE = -1`: There is none.");
        Due.is("NONE", FireWards.NONE, -1);
        Due.says("public final class FireWards {");
        Due.is("the class", FireWards.class.getModifiers(), Modifier.PUBLIC | Modifier.FINAL);
        Set<String> seen = new TreeSet<>();
        for (Constructor<?> c : FireWards.class.getDeclaredConstructors()) {
            note(seen, c.getModifiers(), c.toString());
        }
        for (Method m : FireWards.class.getDeclaredMethods()) {
            note(seen, m.getModifiers(), m.toString());
        }
        for (Field f : FireWards.class.getDeclaredFields()) {
            note(seen, f.getModifiers(), f.toString());
        }
        Due.same("what can be seen", seen, new TreeSet<>(Set.of(FACE)));
        Due.end("FaceTest");
    }

    private static void note(Set<String> seen, int modifiers, String member) {
        if (!Modifier.isPrivate(modifiers)) {
            seen.add(member);
        }
    }
}
