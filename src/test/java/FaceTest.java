import java.lang.reflect.Constructor;
import java.lang.reflect.Field;
import java.lang.reflect.Method;
import java.lang.reflect.Modifier;
import java.util.Arrays;
import java.util.Set;
import java.util.TreeSet;

/** The public face of the document, and no other member that can be seen from outside. */
final class FaceTest {
    private static final Set<String> FACE = new TreeSet<>(Arrays.asList(
            "public static final int TriangleRaster.NONE",
            "public TriangleRaster(int,int)",
            "public boolean TriangleRaster.clear(int,int)",
            "public boolean TriangleRaster.vertex(int,int,int,int)",
            "public int TriangleRaster.triangle(int)",
            "public boolean TriangleRaster.covers(int,int)",
            "public int TriangleRaster.line(int,int,int,int,int)",
            "public int TriangleRaster.fill(int,int,int)",
            "public int TriangleRaster.pixel(int,int)",
            "public int TriangleRaster.depthAt(int,int)",
            "public int TriangleRaster.count(int)",
            "public int TriangleRaster.pieces(int)"));

    public static void main(String[] args) {
        Due due = new Due();
        Class<TriangleRaster> type = TriangleRaster.class;
        due.same("NONE", TriangleRaster.NONE, -1);
        due.same("the class is public", Modifier.isPublic(type.getModifiers()), true);
        due.same("the class is final", Modifier.isFinal(type.getModifiers()), true);

        Set<String> seen = new TreeSet<>();
        for (Field field : type.getDeclaredFields()) {
            note(seen, field.getModifiers(), field.toString());
        }
        for (Constructor<?> constructor : type.getDeclaredConstructors()) {
            note(seen, constructor.getModifiers(), constructor.toString());
        }
        for (Method method : type.getDeclaredMethods()) {
            note(seen, method.getModifiers(), method.toString());
        }
        for (String member : FACE) {
            due.same("has " + member, seen.contains(member), true);
        }
        for (String member : seen) {
            due.same("the document has " + member, FACE.contains(member), true);
        }
        due.end();
    }

    private static void note(Set<String> seen, int modifiers, String member) {
        if (!Modifier.isPrivate(modifiers)) {
            seen.add(member);
        }
    }
}
