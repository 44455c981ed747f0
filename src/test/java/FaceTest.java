import java.lang.reflect.Constructor;
import java.lang.reflect.Field;
import java.lang.reflect.Method;
import java.lang.reflect.Modifier;
import java.util.Arrays;
import java.util.TreeSet;

/** The face of the class: what the document lists, and nothing beside it. */
public final class FaceTest {
    private static final String[] FACE = {
        "TwinHart(int)", "int NONE", "boolean poke(int,int)", "boolean put(int,int,int)",
        "boolean set(int,int,int)", "int csr(int,int)", "int level(int)", "int out(int)", "int pc(int)",
        "int peek(int)", "int register(int,int)", "int size()", "int step(int)", "void reset()", "void tick()",
    };

    public static void main(String[] args) {
        Check check = new Check();
        TreeSet<String> found = new TreeSet<>();
        for (Constructor<?> made : TwinHart.class.getDeclaredConstructors()) {
            note(found, made.getModifiers(), "TwinHart" + types(made.getParameterTypes()));
        }
        for (Method method : TwinHart.class.getDeclaredMethods()) {
            note(found, method.getModifiers(),
                method.getReturnType() + " " + method.getName() + types(method.getParameterTypes()));
        }
        for (Field field : TwinHart.class.getDeclaredFields()) {
            note(found, field.getModifiers(), field.getType() + " " + field.getName());
        }
        TreeSet<String> wanted = new TreeSet<>(Arrays.asList(FACE));
        for (String member : wanted) {
            check.due("there is " + member, found.contains(member), true);
        }
        for (String member : found) {
            check.due("the document has " + member, wanted.contains(member), true);
        }
        check.due("the class is final", Modifier.isFinal(TwinHart.class.getModifiers()), true);
        check.due("NONE", TwinHart.NONE, -1);
        check.end();
    }

    private static void note(TreeSet<String> found, int modifiers, String member) {
        if (!Modifier.isPrivate(modifiers)) {
            found.add(member);
        }
    }

    private static String types(Class<?>[] types) {
        StringBuilder text = new StringBuilder("(");
        for (int i = 0; i < types.length; i++) {
            text.append(i == 0 ? "" : ",").append(types[i]);
        }
        return text.append(")").toString();
    }
}
