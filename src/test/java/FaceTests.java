import java.lang.reflect.Constructor;
import java.lang.reflect.Field;
import java.lang.reflect.Method;
import java.lang.reflect.Modifier;
import java.util.ArrayList;
import java.util.List;
import java.util.Set;
import java.util.TreeSet;

// The class has the document's face and no other member that can be seen.
public final class FaceTests {
    private static final Set<String> DUE = new TreeSet<>(List.of(
            "public DayCutPlans()",
            "public static final int DayCutPlans.NONE",
            "public void DayCutPlans.logs(int,int,int) throws java.lang.IndexOutOfBoundsException,java.lang.IllegalArgumentException",
            "public int DayCutPlans.pattern(int,int) throws java.lang.IndexOutOfBoundsException,java.lang.IllegalArgumentException,java.lang.IllegalStateException",
            "public void DayCutPlans.gives(int,int,int) throws java.lang.IndexOutOfBoundsException,java.lang.IllegalArgumentException",
            "public void DayCutPlans.order(int,int,int,int) throws java.lang.IndexOutOfBoundsException,java.lang.IllegalArgumentException",
            "public void DayCutPlans.hours(int,int) throws java.lang.IllegalArgumentException",
            "public int DayCutPlans.run(int) throws java.lang.IllegalArgumentException",
            "public int DayCutPlans.search(int) throws java.lang.IndexOutOfBoundsException,java.lang.IllegalStateException",
            "public int DayCutPlans.used(int) throws java.lang.IndexOutOfBoundsException,java.lang.IllegalStateException",
            "public int DayCutPlans.best(int) throws java.lang.IndexOutOfBoundsException,java.lang.IllegalStateException",
            "public int DayCutPlans.made(int) throws java.lang.IndexOutOfBoundsException,java.lang.IllegalStateException",
            "public int DayCutPlans.saw() throws java.lang.IllegalStateException",
            "public int DayCutPlans.mill(int) throws java.lang.IndexOutOfBoundsException",
            "public int DayCutPlans.cost(int,int) throws java.lang.IndexOutOfBoundsException,java.lang.IllegalArgumentException,java.lang.IllegalStateException"));

    private static Set<String> membersThatAreSeen() {
        Set<String> seen = new TreeSet<>();
        for (Constructor<?> c : DayCutPlans.class.getDeclaredConstructors()) {
            if (!Modifier.isPrivate(c.getModifiers())) {
                seen.add(c.toString());
            }
        }
        for (Field f : DayCutPlans.class.getDeclaredFields()) {
            if (!Modifier.isPrivate(f.getModifiers())) {
                seen.add(f.toString());
            }
        }
        for (Method m : DayCutPlans.class.getDeclaredMethods()) {
            if (!Modifier.isPrivate(m.getModifiers())) {
                seen.add(m.toString());
            }
        }
        return seen;
    }

    private static List<String> namesTakenTwice() {
        Set<String> publicNames = new TreeSet<>();
        for (Method m : DayCutPlans.class.getDeclaredMethods()) {
            if (Modifier.isPublic(m.getModifiers())) {
                publicNames.add(m.getName());
            }
        }
        List<Class<?>> classes = new ArrayList<>(List.of(DayCutPlans.class.getDeclaredClasses()));
        classes.add(DayCutPlans.class);
        List<String> twice = new ArrayList<>();
        for (Class<?> c : classes) {
            for (Method m : c.getDeclaredMethods()) {
                if (!Modifier.isPublic(m.getModifiers()) && publicNames.contains(m.getName())) {
                    twice.add(m.toString());
                }
            }
        }
        return twice;
    }

    public static void main(String[] args) {
        boolean good = true;
        Set<String> seen = membersThatAreSeen();
        for (String member : DUE) {
            if (!seen.contains(member)) {
                good = false;
                System.out.println("the face lacks " + member);
            }
        }
        for (String member : seen) {
            if (!DUE.contains(member)) {
                good = false;
                System.out.println("the face has, but should not, " + member);
            }
        }
        for (String method : namesTakenTwice()) {
            good = false;
            System.out.println("bears the name of a public method: " + method);
        }
        int kind = DayCutPlans.class.getModifiers();
        if (!Modifier.isPublic(kind) || !Modifier.isFinal(kind)) {
            good = false;
            System.out.println("the class is not public and final");
        }
        for (Class<?> c : DayCutPlans.class.getDeclaredClasses()) {
            if (!Modifier.isStatic(c.getModifiers())) {
                good = false;
                System.out.println("not static: " + c);
            }
            if (Modifier.isPublic(c.getModifiers()) || Modifier.isProtected(c.getModifiers())) {
                good = false;
                System.out.println("seen from outside: " + c);
            }
        }
        System.out.println(good ? "the face is as due" : "the face is not as due");
        if (!good) {
            System.exit(1);
        }
    }
}
