import java.lang.reflect.Constructor;
import java.lang.reflect.Field;
import java.lang.reflect.Method;
import java.lang.reflect.Modifier;
import java.util.TreeSet;

/** The public face is the document's, and nothing else of the class is visible. */
public final class FaceTest {
    private static final String[] FACE = {
        "public void put(int,long) IndexOutOfBoundsException",
        "public void erase(int,int) IndexOutOfBoundsException",
        "public long get(int) IndexOutOfBoundsException UnsupportedOperationException",
        "public long sum(int,int) IndexOutOfBoundsException",
        "public int encode()",
        "public long code(int) IndexOutOfBoundsException",
        "public int feed(long,int) IllegalArgumentException IndexOutOfBoundsException",
        "public int decode() IllegalArgumentException",
        "public int wrong()",
        "public int count(int) IllegalArgumentException",
    };

    public static void main(String[] args) {
        Check.due("class", Modifier.toString(ChunkCode.class.getModifiers()), "public final");
        Check.due("superclass", ChunkCode.class.getSuperclass().getName(), "java.lang.Object");
        Check.due("interfaces", ChunkCode.class.getInterfaces().length, 0);
        TreeSet<String> due = new TreeSet<>(java.util.List.of(FACE));
        TreeSet<String> seen = new TreeSet<>();
        for (Method method : ChunkCode.class.getDeclaredMethods()) {
            if (!Modifier.isPrivate(method.getModifiers())) {
                seen.add(textOf(method));
            }
        }
        Check.due("methods", seen.toString(), due.toString());
        Constructor<?>[] constructors = ChunkCode.class.getDeclaredConstructors();
        Check.due("constructors", constructors.length, 1);
        Check.due("constructor", constructors[0].toString(), "public ChunkCode()");
        for (Field field : ChunkCode.class.getDeclaredFields()) {
            Check.due(field.getName() + " private", Modifier.isPrivate(field.getModifiers()) ? 1 : 0, 1);
        }
        for (Class<?> inside : ChunkCode.class.getDeclaredClasses()) {
            int modifiers = inside.getModifiers();
            boolean hidden = !Modifier.isPublic(modifiers) && !Modifier.isProtected(modifiers);
            Check.due(inside.getName() + " hidden and static", hidden && Modifier.isStatic(modifiers) ? 1 : 0, 1);
        }
        Check.end();
    }

    private static String textOf(Method method) {
        StringBuilder text = new StringBuilder();
        text.append(Modifier.toString(method.getModifiers())).append(' ').append(method.getReturnType());
        text.append(' ').append(method.getName()).append('(');
        String comma = "";
        for (Class<?> type : method.getParameterTypes()) {
            text.append(comma).append(type);
            comma = ",";
        }
        text.append(')');
        for (Class<?> type : method.getExceptionTypes()) {
            text.append(' ').append(type.getSimpleName());
        }
        return text.toString();
    }
}
