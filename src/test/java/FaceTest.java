import java.lang.reflect.Constructor;
import java.lang.reflect.Field;
import java.lang.reflect.Method;
import java.lang.reflect.Modifier;
import java.util.Arrays;
import java.util.Set;
import java.util.TreeSet;

/** The class has the public face that the document tells, and no other member that can be seen. */
public final class FaceTest {
    private static final String[] FACE = {
        "public LazyPages()",
        "public static final int LazyPages.NONE",
        "public int LazyPages.put(int,long) throws java.lang.UnsupportedOperationException",
        "public long LazyPages.add(int,long) throws java.lang.UnsupportedOperationException",
        "public long LazyPages.most(int,long) throws java.lang.UnsupportedOperationException",
        "public int LazyPages.delete(int,int) throws java.lang.IllegalArgumentException,java.lang.UnsupportedOperationException",
        "public int LazyPages.raise(int,int,long) throws java.lang.IllegalArgumentException,java.lang.UnsupportedOperationException",
        "public int LazyPages.putAll(int,int,long,long,int) throws java.lang.IllegalArgumentException",
        "public boolean LazyPages.has(int,int) throws java.lang.IndexOutOfBoundsException",
        "public long LazyPages.get(int,int) throws java.lang.IndexOutOfBoundsException",
        "public int LazyPages.count(int,int,int) throws java.lang.IndexOutOfBoundsException,java.lang.IllegalArgumentException",
        "public long LazyPages.sum(int,int,int) throws java.lang.IndexOutOfBoundsException,java.lang.IllegalArgumentException",
        "public int LazyPages.key(int,int,int) throws java.lang.IndexOutOfBoundsException,java.lang.IllegalArgumentException",
        "public void LazyPages.save(int) throws java.lang.IndexOutOfBoundsException",
        "public boolean LazyPages.drop(int) throws java.lang.IndexOutOfBoundsException",
        "public int LazyPages.restore(int) throws java.lang.IndexOutOfBoundsException,java.lang.UnsupportedOperationException",
        "public int LazyPages.differ(int,int) throws java.lang.IndexOutOfBoundsException",
        "public void LazyPages.settle()",
        "public int LazyPages.sync()",
        "public int LazyPages.checkpoint()",
        "public int LazyPages.crash()",
        "public int LazyPages.total(int) throws java.lang.IllegalArgumentException",
        "public boolean LazyPages.isSound()",
    };

    private static Set<String> seen() {
        Set<String> seen = new TreeSet<>();
        for (Constructor<?> constructor : LazyPages.class.getDeclaredConstructors()) {
            keepIfSeen(seen, constructor.getModifiers(), constructor.toString());
        }
        for (Method method : LazyPages.class.getDeclaredMethods()) {
            keepIfSeen(seen, method.getModifiers(), method.toString());
        }
        for (Field field : LazyPages.class.getDeclaredFields()) {
            keepIfSeen(seen, field.getModifiers(), field.toString());
        }
        return seen;
    }

    private static void keepIfSeen(Set<String> seen, int modifiers, String member) {
        if (!Modifier.isPrivate(modifiers)) {
            seen.add(member);
        }
    }

    private static int reused() {
        int wrong = 0;
        Set<String> open = new TreeSet<>();
        for (Method method : LazyPages.class.getMethods()) {
            open.add(method.getName());
        }
        for (Method method : LazyPages.class.getDeclaredMethods()) {
            if (Modifier.isPrivate(method.getModifiers()) && open.contains(method.getName())) {
                wrong++;
                System.out.println("a private method has the name of a public one: " + method);
            }
        }
        return wrong;
    }

    public static void main(String[] args) {
        int wrong = reused();
        Set<String> due = new TreeSet<>(Arrays.asList(FACE));
        Set<String> seen = seen();
        if (!seen.equals(due)) {
            wrong++;
            System.out.println("the face is " + seen + ", due is " + due);
        }
        if (LazyPages.class.getModifiers() != (Modifier.PUBLIC | Modifier.FINAL)) {
            wrong++;
            System.out.println("the class is not public and final alone");
        }
        for (Class<?> inside : LazyPages.class.getDeclaredClasses()) {
            if (!Modifier.isStatic(inside.getModifiers())) {
                wrong++;
                System.out.println("not static: " + inside);
            }
        }
        System.out.println(wrong == 0 ? "the face is as due" : "the face is not as due");
        System.exit(wrong == 0 ? 0 : 1);
    }
}
