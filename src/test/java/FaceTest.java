import java.lang.reflect.Constructor;
import java.lang.reflect.Method;
import java.lang.reflect.Modifier;
import java.util.Arrays;
import java.util.TreeSet;

/** The public face is the document's, and nothing else of the class can be seen. */
public final class FaceTest {
    private static final String[] FACE = {
        "count(int) IndexOutOfBoundsException",
        "erase()",
        "form(int,int) IndexOutOfBoundsException",
        "length()",
        "letter(int) IndexOutOfBoundsException",
        "reached() IllegalStateException",
        "read() IllegalArgumentException IllegalStateException UnsupportedOperationException",
        "run(int) IllegalArgumentException IllegalStateException",
        "stopped()",
        "write(long,int) IllegalArgumentException IllegalStateException",
    };

    public static void main(String[] args) {
        Check.due("modifiers", TurnerHeap.class.getModifiers(), Modifier.PUBLIC | Modifier.FINAL);
        TreeSet<String> seen = new TreeSet<>();
        for (Method method : TurnerHeap.class.getDeclaredMethods()) {
            if (!Modifier.isPrivate(method.getModifiers()) && !method.isSynthetic()) {
                Check.due(method.getName() + " modifiers", method.getModifiers(), Modifier.PUBLIC);
                Check.due(method.getName() + " answers", method.getReturnType(), int.class);
                seen.add(told(method));
            }
        }
        Check.due("methods", seen, new TreeSet<>(Arrays.asList(FACE)));
        Constructor<?>[] constructors = TurnerHeap.class.getDeclaredConstructors();
        Check.due("constructors", constructors.length, 1);
        Check.due("constructor takes", Arrays.toString(constructors[0].getParameterTypes()), "[int]");
        Arrays.stream(TurnerHeap.class.getDeclaredFields())
            .forEach(f -> Check.due(f.getName() + " is private", Modifier.isPrivate(f.getModifiers()), true));
        Check.end("FaceTest");
    }

    private static String told(Method method) {
        StringBuilder told = new StringBuilder(method.getName()).append('(');
        for (Class<?> type : method.getParameterTypes()) {
            told.append(told.charAt(told.length() - 1) == '(' ? "" : ",").append(type.getSimpleName());
        }
        told.append(')');
        for (Class<?> type : method.getExceptionTypes()) {
            told.append(' ').append(type.getSimpleName());
        }
        return told.toString();
    }
}
