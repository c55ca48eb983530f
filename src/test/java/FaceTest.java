import java.lang.reflect.Constructor;
import java.lang.reflect.Field;
import java.lang.reflect.Method;
import java.lang.reflect.Modifier;
import java.util.Set;
import java.util.TreeSet;

/** The class shows the document's face and no more. */
public final class FaceTest {
    public static void main(String[] args) {
        Check.sentence("the class is public and final", FaceTest::publicAndFinal);
        Check.sentence("the public face", FaceTest::membersOfTheFace);
        Check.end();
    }

    private static void publicAndFinal() {
        int modifiers = PileMarker.class.getModifiers();
        Check.due("public", "" + Modifier.isPublic(modifiers), "true");
        Check.due("final", "" + Modifier.isFinal(modifiers), "true");
    }

    private static void membersOfTheFace() {
        Set<String> want = new TreeSet<>(Set.of(
            "public static final int PileMarker.NONE",
            "public PileMarker()",
            "public int PileMarker.make(int) throws java.lang.IllegalArgumentException,java.lang.IllegalStateException",
            "public int PileMarker.set(int,int,int) throws java.util.NoSuchElementException",
            "public int PileMarker.get(int,int) throws java.util.NoSuchElementException",
            "public int PileMarker.root(int,int) throws java.util.NoSuchElementException",
            "public int PileMarker.pile(int) throws java.lang.IllegalArgumentException,java.lang.IllegalStateException",
            "public void PileMarker.begin() throws java.lang.IllegalStateException",
            "public void PileMarker.mark(int) throws java.lang.IllegalArgumentException"));
        want.addAll(Set.of(
            "public void PileMarker.preclean(int) throws java.lang.IllegalArgumentException",
            "public int PileMarker.finish() throws java.lang.IllegalStateException",
            "public boolean PileMarker.marked(int) throws java.util.NoSuchElementException,java.lang.IllegalStateException",
            "public int PileMarker.lost() throws java.lang.IllegalStateException",
            "public int PileMarker.count(int) throws java.lang.IllegalArgumentException"));
        Set<String> got = new TreeSet<>();
        for (Field field : PileMarker.class.getDeclaredFields()) {
            if (!Modifier.isPrivate(field.getModifiers())) {
                got.add(field.toString());
            }
        }
        for (Constructor<?> constructor : PileMarker.class.getDeclaredConstructors()) {
            got.add(constructor.toString());
        }
        for (Method method : PileMarker.class.getDeclaredMethods()) {
            if (!Modifier.isPrivate(method.getModifiers())) {
                got.add(method.toString());
            }
        }
        Check.due("the face", got.toString(), want.toString());
    }
}
