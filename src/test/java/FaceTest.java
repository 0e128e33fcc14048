import java.lang.reflect.Constructor;
import java.lang.reflect.Field;
import java.lang.reflect.Method;
import java.lang.reflect.Modifier;
import java.util.Set;
import java.util.TreeSet;

/** The public face: just the constant, the constructor and the methods of the document. */
public final class FaceTest {
    private static final Set<String> FACE = Set.of(
            "public static final int FieldPack.NONE",
            "public FieldPack(int,int)",
            "public int FieldPack.field(long,long,boolean)",
            "public int FieldPack.encode(int)",
            "public int FieldPack.move(int,int)",
            "public int FieldPack.deliver(int)",
            "public int FieldPack.increment()",
            "public int FieldPack.cancel(int)",
            "public int FieldPack.waiting(int)",
            "public int FieldPack.look(int,int)",
            "public int FieldPack.told(int,int)",
            "public long FieldPack.entry(int,int,int)",
            "public int FieldPack.sections(int)",
            "public long FieldPack.decoded(int,int,int,int)");

    public static void main(String[] args) {
        Due due = new Due();
        Set<String> open = new TreeSet<>();
        Set<String> publicNames = new TreeSet<>();
        Class<?> face = FieldPack.class;
        for (Field f : face.getDeclaredFields()) {
            addOpen(open, f.getModifiers(), f.toString());
        }
        for (Constructor<?> c : face.getDeclaredConstructors()) {
            addOpen(open, c.getModifiers(), c.toString());
        }
        for (Method method : face.getDeclaredMethods()) {
            addOpen(open, method.getModifiers(), method.toString());
            if (Modifier.isPublic(method.getModifiers())) {
                publicNames.add(method.getName());
            }
        }
        for (Method method : face.getDeclaredMethods()) {
            boolean hidden = Modifier.isPrivate(method.getModifiers());
            due.is("private " + method.getName(), hidden && publicNames.contains(method.getName()) ? 1 : 0, 0);
        }
        System.out.println(open.equals(FACE) ? "the face is as due" : "the face is " + open);
        due.is("the face is the document's", open.equals(FACE) ? 1 : 0, 1);
        due.is("public and final", face.getModifiers(), Modifier.PUBLIC | Modifier.FINAL);
        due.is("NONE", FieldPack.NONE, -1);
        for (Class<?> inside : face.getDeclaredClasses()) {
            due.is(inside + " is static", Modifier.isStatic(inside.getModifiers()) ? 1 : 0, 1);
        }
        due.done();
    }

    private static void addOpen(Set<String> open, int modifiers, String member) {
        if (!Modifier.isPrivate(modifiers)) {
            open.add(member);
        }
    }
}
