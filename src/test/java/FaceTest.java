import java.lang.reflect.Constructor;
import java.lang.reflect.Field;
import java.lang.reflect.Method;
import java.lang.reflect.Modifier;
import java.util.Arrays;
import java.util.TreeSet;

/** The public face: just what the document lists, and nothing else that another class could see. */
public final class FaceTest {
    public static void main(String[] args) {
        Check.same("the class", Modifier.toString(RuleText.class.getModifiers()), "public final");
        TreeSet<String> want = new TreeSet<>(Arrays.asList(
            "public static final int RuleText.NONE",
            "public RuleText()",
            "public boolean RuleText.unit(int)",
            "public boolean RuleText.name(int,int,int) throws java.lang.IndexOutOfBoundsException",
            "public int RuleText.read()",
            "public int RuleText.rule(int,int) throws java.lang.IndexOutOfBoundsException",
            "public long RuleText.value(int,int) throws java.lang.IndexOutOfBoundsException",
            "public int RuleText.rank(int) throws java.lang.IndexOutOfBoundsException",
            "public boolean RuleText.shape(int,long,long,long,long) throws java.lang.IndexOutOfBoundsException",
            "public int RuleText.never(int)",
            "public int RuleText.clash(int,int) throws java.lang.IndexOutOfBoundsException",
            "public int RuleText.line(int) throws java.lang.IndexOutOfBoundsException",
            "public int RuleText.kinds()",
            "public int RuleText.write(int) throws java.lang.IndexOutOfBoundsException",
            "public void RuleText.clear()"));
        TreeSet<String> got = new TreeSet<>();
        for (Field f : RuleText.class.getDeclaredFields()) {
            if (!Modifier.isPrivate(f.getModifiers())) {
                got.add(f.toString());
            }
        }
        for (Constructor<?> c : RuleText.class.getDeclaredConstructors()) {
            got.add(c.toString());
        }
        for (Method m : RuleText.class.getDeclaredMethods()) {
            if (!Modifier.isPrivate(m.getModifiers())) {
                got.add(m.toString());
            }
        }
        Check.same("the face", got.toString(), want.toString());
        Check.end();
    }
}
