import java.lang.reflect.Constructor;
import java.lang.reflect.Field;
import java.lang.reflect.Method;
import java.lang.reflect.Modifier;
import java.util.TreeSet;

/** The public face is the document's, and nothing else can be seen of the class. */
public final class FaceTest {
    public static void main(String[] args) {
        Check.same("public final", Modifier.toString(RuleReader.class.getModifiers()), "public final");
        TreeSet<String> face = new TreeSet<>();
        for (Constructor<?> c : RuleReader.class.getDeclaredConstructors()) {
            face.add(c.toString());
        }
        for (Method m : RuleReader.class.getDeclaredMethods()) {
            if (!Modifier.isPrivate(m.getModifiers())) {
                face.add(m.toString());
            }
        }
        for (Field f : RuleReader.class.getDeclaredFields()) {
            if (!Modifier.isPrivate(f.getModifiers())) {
                face.add(f.toString());
            }
        }
        String bounds = " throws java.lang.IndexOutOfBoundsException";
        TreeSet<String> due = new TreeSet<>();
        due.add("public RuleReader()");
        due.add("public boolean RuleReader.unit(int)");
        due.add("public int RuleReader.read()");
        due.add("public int RuleReader.rows(int,int) throws java.lang.IllegalStateException,"
                + "java.lang.IllegalArgumentException,java.lang.UnsupportedOperationException");
        due.add("public int RuleReader.row(int,int)" + bounds);
        due.add("public int RuleReader.place(int,int)" + bounds);
        due.add("public int RuleReader.free(int)");
        due.add("public int RuleReader.given(int)");
        due.add("public int RuleReader.line(int)" + bounds);
        due.add("public int RuleReader.write(int)");
        due.add("public int RuleReader.depth()");
        due.add("public void RuleReader.clear()");
        Check.same("the face", face.toString(), due.toString());
        Check.end();
    }
}
