import java.lang.reflect.Constructor;
import java.lang.reflect.Field;
import java.lang.reflect.Method;
import java.lang.reflect.Modifier;
import java.util.TreeSet;

/** The public face: every constant, constructor and method of the document, and no other. */
final class FaceTest {
    public static void main(String[] args) {
        Class<?> c = MappedBusNode.class;
        Bench.due("public and final", c.getModifiers(), Modifier.PUBLIC | Modifier.FINAL);
        TreeSet<String> face = new TreeSet<>();
        for (Field f : c.getDeclaredFields()) {
            if (!Modifier.isPrivate(f.getModifiers())) {
                face.add(f.toString());
            }
        }
        for (Method m : c.getDeclaredMethods()) {
            if (!Modifier.isPrivate(m.getModifiers())) {
                face.add(m.toString());
            }
        }
        for (Constructor<?> k : c.getDeclaredConstructors()) {
            face.add(k.toString());
        }
        String[] due = {
            "public static final int MappedBusNode.PRE",
            "public static final int MappedBusNode.RUNNING",
            "public static final int MappedBusNode.STOPPED",
            "public MappedBusNode(int)",
            "public int MappedBusNode.frame(int,int,int,int) throws java.lang.IllegalArgumentException",
            "public int MappedBusNode.tick()",
            "public int MappedBusNode.set(int,int,int,int) throws java.util.NoSuchElementException",
            "public int MappedBusNode.value(int,int,int) throws java.util.NoSuchElementException",
            "public int MappedBusNode.size(int,int)",
            "public int MappedBusNode.state()",
            "public boolean MappedBusNode.busy()",
            "public int MappedBusNode.outs()",
            "public int MappedBusNode.out(int,int) throws java.lang.IndexOutOfBoundsException",
            "public int MappedBusNode.flush()",
        };
        for (String d : due) {
            Bench.due("has " + d, face.remove(d), true);
        }
        Bench.due("members beyond the face " + face, face.size(), 0);
        Bench.due("PRE", MappedBusNode.PRE, 127);
        Bench.due("RUNNING", MappedBusNode.RUNNING, 5);
        Bench.due("STOPPED", MappedBusNode.STOPPED, 4);
        Bench.done();
    }
}
