import java.lang.reflect.Constructor;
import java.lang.reflect.Field;
import java.lang.reflect.Method;
import java.lang.reflect.Modifier;
import java.util.TreeSet;

/** The document's face, and nothing else of the class that others can see. */
public final class FaceTest {
    private static final String[] FACE = {
        "int axiom(int,int,int)", "int triple(int,int,int)", "int row(int,int,int)", "int premise(int,int)",
        "int check(int)", "int broken()", "int rows(int)", "int size(int)", "int drop(int)", "int name(int)",
        "int states(int,int)", "int sentence(int)", "int at(int)", "boolean concludes(int,int)"};

    public static void main(String[] args) {
        TreeSet<String> want = new TreeSet<>(java.util.List.of(FACE));
        TreeSet<String> got = new TreeSet<>();
        boolean fine = Modifier.isFinal(ProofChecker.class.getModifiers())
                && Modifier.isPublic(ProofChecker.class.getModifiers());
        for (Method method : ProofChecker.class.getDeclaredMethods()) {
            if (!Modifier.isPrivate(method.getModifiers()) && !method.isSynthetic()) {
                fine &= Modifier.isPublic(method.getModifiers());
                got.add(signature(method));
            }
        }
        for (Field field : ProofChecker.class.getDeclaredFields()) {
            fine &= Modifier.isPrivate(field.getModifiers());
        }
        Constructor<?>[] constructors = ProofChecker.class.getDeclaredConstructors();
        fine &= constructors.length == 1 && constructors[0].getParameterCount() == 0
                && Modifier.isPublic(constructors[0].getModifiers());
        if (!fine || !got.equals(want)) {
            System.out.println("the face is " + got + ", due is " + want);
            System.exit(1);
        }
        System.out.println("the face is the document's");
    }

    private static String signature(Method method) {
        StringBuilder text = new StringBuilder(method.getReturnType().getName());
        text.append(' ').append(method.getName()).append('(');
        for (int i = 0; i < method.getParameterCount(); i++) {
            text.append(i == 0 ? "" : ",").append(method.getParameterTypes()[i].getName());
        }
        return text.append(')').toString();
    }
}
