import java.lang.reflect.Constructor;
import java.lang.reflect.Field;
import java.lang.reflect.Method;
import java.lang.reflect.Modifier;
import java.util.Set;
import java.util.TreeSet;

/** The public face: what the document lists, and nothing else that is not private. */
public final class FaceTest {
    private static final Set<String> FACE = Set.of(
            "public static final int NONE", "public RoundPlans()", "public int stop(int)",
            "public boolean hours(int,int,int,int)", "public boolean penalty(int,long)",
            "public int vehicle(int,int,int,int)", "public boolean way(int,int,int)",
            "public boolean fixed(int,int)", "public boolean apart(int,int,boolean)",
            "public boolean before(int,int)", "public int run()", "public long cost()",
            "public int vehicleOf(int)", "public int at(int,int)", "public int begun(int)",
            "public int back(int)", "public long saved(int)");

    private static Set<String> seen() {
        Set<String> seen = new TreeSet<>();
        for (Field field : RoundPlans.class.getDeclaredFields()) {
            add(seen, field.getModifiers(), field.toString());
        }
        for (Method method : RoundPlans.class.getDeclaredMethods()) {
            add(seen, method.getModifiers(), method.toString());
        }
        for (Constructor<?> constructor : RoundPlans.class.getDeclaredConstructors()) {
            add(seen, constructor.getModifiers(), constructor.toString());
        }
        return seen;
    }

    private static void add(Set<String> seen, int modifiers, String text) {
        if (!Modifier.isPrivate(modifiers)) {
            seen.add(text.replace("RoundPlans.", ""));
        }
    }

    public static void main(String[] args) {
        Set<String> seen = seen();
        for (String member : FACE) {
            Due.yes("the face has " + member, seen.contains(member));
        }
        for (String member : seen) {
            Due.yes("the document has " + member, FACE.contains(member));
        }
        Due.yes("the class is public and final",
                RoundPlans.class.getModifiers() == (Modifier.PUBLIC | Modifier.FINAL));
        Due.is("NONE", RoundPlans.NONE, -1);
        Due.end();
    }
}
