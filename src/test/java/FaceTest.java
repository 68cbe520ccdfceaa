import java.lang.reflect.Constructor;
import java.lang.reflect.Field;
import java.lang.reflect.Method;
import java.lang.reflect.Modifier;
import java.util.Arrays;
import java.util.Set;
import java.util.TreeSet;

/** The public face is the document's, and nothing else of the class can be seen (promise 1, LANGUAGE.md rule 1). */
public final class FaceTest {
    private static final String[] METHODS = {
        "void map(int,int)", "void protect(int,boolean)", "int noted(int)", "void poke(int,int)", "int peek(int)",
        "int start(int,int)", "int run(int)", "void resume(int)", "void kill(int)", "int interrupt(int)",
        "int tick(int)", "int running()", "int process(int,int)", "int stack(int,int)", "int page(int,int)",
        "int free(int)"
    };

    public static void main(String[] args) {
        Check check = new Check("FaceTest");
        Class<?> face = FrameProcessor.class;
        check.due("NONE", FrameProcessor.NONE, -1);
        check.due("public final", face.getModifiers(), Modifier.PUBLIC | Modifier.FINAL);

        Set<String> seen = new TreeSet<>();
        for (Method method : face.getDeclaredMethods()) {
            if (!Modifier.isPrivate(method.getModifiers())) {
                seen.add(described(method));
                check.due(method.getName() + " is public alone", method.getModifiers(), Modifier.PUBLIC);
            }
        }
        Set<String> due = new TreeSet<>(Arrays.asList(METHODS));
        System.out.print(seen.equals(due) ? "" : "seen " + seen + "\ndue  " + due + "\n");
        check.due("the methods of the face", seen.equals(due) ? 1 : 0, 1);

        for (Field field : face.getDeclaredFields()) {
            boolean none = field.getName().equals("NONE");
            check.due("field " + field.getName() + " is hidden", Modifier.isPrivate(field.getModifiers()) ? 1 : 0,
                none ? 0 : 1);
        }
        Constructor<?>[] constructors = face.getDeclaredConstructors();
        check.due("constructors", constructors.length, 1);
        check.due("the constructor is public", constructors[0].getModifiers(), Modifier.PUBLIC);
        check.due("its parameters", constructors[0].getParameterCount(), 0);
        check.end();
    }

    private static String described(Method method) {
        StringBuilder text = new StringBuilder(method.getReturnType() + " " + method.getName() + "(");
        for (Class<?> type : method.getParameterTypes()) {
            text.append(text.charAt(text.length() - 1) == '(' ? "" : ",").append(type);
        }
        return text.append(')').toString();
    }
}
