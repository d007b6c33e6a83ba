import java.lang.reflect.Constructor;
import java.lang.reflect.Field;
import java.lang.reflect.Method;
import java.lang.reflect.Modifier;
import java.util.TreeSet;

/** The class has the document's face and, but for classes inside it, nothing else to be seen. */
public final class FaceTest {
    private static final String I = "IllegalArgumentException";
    private static final String S = "IllegalStateException";
    private static final String X = "IndexOutOfBoundsException";

    public static void main(String[] args) {
        TreeSet<String> due = face();
        TreeSet<String> got = new TreeSet<>();
        TreeSet<String> names = new TreeSet<>();
        for (Method method : GossipHead.class.getDeclaredMethods()) {
            if (isSeen(method.getModifiers()) && !method.isSynthetic()) {
                got.add(signature(method));
                names.add(method.getName());
            }
        }
        same("the methods", got, due);
        for (Method method : GossipHead.class.getDeclaredMethods()) {
            boolean hidesName = !isSeen(method.getModifiers()) && names.contains(method.getName());
            Check.due("private " + method.getName() + " bears a public name", hidesName ? 1 : 0, 0);
        }
        members();
        Check.finish();
    }

    private static boolean isSeen(int modifiers) {
        return !Modifier.isPrivate(modifiers);
    }

    private static void same(String what, TreeSet<String> got, TreeSet<String> due) {
        boolean same = got.equals(due);
        if (!same) {
            System.out.println(what + " are " + got + ", due are " + due);
        }
        Check.due(what + " are as due", same ? 1 : 0, 1);
    }

    private static String signature(Method method) {
        StringBuilder text = new StringBuilder();
        text.append(Modifier.toString(method.getModifiers())).append(' ');
        text.append(method.getReturnType().getName()).append(' ').append(method.getName());
        text.append('/').append(method.getParameterCount());
        for (Class<?> type : method.getParameterTypes()) {
            Check.due("int in " + method.getName(), type == int.class ? 1 : 0, 1);
        }
        for (Class<?> thrown : method.getExceptionTypes()) {
            text.append(' ').append(thrown.getSimpleName());
        }
        return text.toString();
    }

    private static void members() {
        TreeSet<String> fields = new TreeSet<>();
        for (Field field : GossipHead.class.getDeclaredFields()) {
            if (isSeen(field.getModifiers())) {
                fields.add(Modifier.toString(field.getModifiers()) + " " + field.getName());
            }
        }
        TreeSet<String> due = new TreeSet<>();
        due.add("public static final NONE");
        same("the fields", fields, due);
        Constructor<?>[] made = GossipHead.class.getDeclaredConstructors();
        Check.due("constructors", made.length, 1);
        Check.due("public constructor", Modifier.isPublic(made[0].getModifiers()) ? 1 : 0, 1);
        Check.due("its arguments", made[0].getParameterCount(), 0);
        Check.due("public and final", GossipHead.class.getModifiers(), Modifier.PUBLIC | Modifier.FINAL);
        Check.due("classes inside, at most 11", GossipHead.class.getDeclaredClasses().length > 11 ? 1 : 0, 0);
        for (Class<?> inside : GossipHead.class.getDeclaredClasses()) {
            int modifiers = inside.getModifiers();
            boolean hidden = !Modifier.isPublic(modifiers) && !Modifier.isProtected(modifiers);
            Check.due(inside.getName(), hidden && Modifier.isStatic(modifiers) ? 1 : 0, 1);
        }
    }

    private static TreeSet<String> face() {
        TreeSet<String> due = new TreeSet<>();
        add(due, "addFeeder/5", I, S);
        add(due, "addPlace/2", I, S);
        add(due, "fill/2", X, I, S);
        add(due, "repair/3", X, I);
        add(due, "fit/2", X, I);
        add(due, "clear/0");
        add(due, "set/2", X, I);
        add(due, "tour/1", I);
        add(due, "inspect/0");
        add(due, "append/1", I, S);
        add(due, "clearBuffer/0");
        add(due, "firstError/0");
        add(due, "read/0", I);
        add(due, "undo/0", S);
        add(due, "feeder/2", X, I);
        add(due, "place/2", X, I);
        add(due, "nozzle/2", X, I);
        add(due, "trust/2", X);
        add(due, "count/1", I);
        add(due, "setting/1", X);
        add(due, "ifToured/2", I);
        add(due, "choice/2", X, I);
        add(due, "aim/1", X);
        add(due, "needed/0");
        add(due, "rumored/0");
        due.add("public double missShare/0");
        due.add("public long digest/0");
        return due;
    }

    private static void add(TreeSet<String> due, String call, String... thrown) {
        StringBuilder text = new StringBuilder("public int ").append(call);
        for (String name : thrown) {
            text.append(' ').append(name);
        }
        due.add(text.toString());
    }
}
