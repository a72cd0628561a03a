import java.lang.reflect.Constructor;
import java.lang.reflect.Field;
import java.lang.reflect.Method;
import java.lang.reflect.Modifier;
import java.util.Set;
import java.util.TreeSet;

/** The public face is the document's, and nothing else can be seen from outside. */
public final class FaceTest {
    private static final Set<String> FACE = Set.of(
        "int plug(int,int,int)", "int knob(int,boolean)", "int mount(int,int)", "int share(int,int)",
        "int width(int)", "int tap(int,int,int)", "long seen()", "int dial(int,int,int,long)",
        "int lay(int,int,int)", "int row(int,int,int)", "int what(int,int)", "int inner(int,int,int,int)",
        "int enter(int,int,int,int,long)", "int cable(int,int,int,int,int,int,int,int)", "int in(int)",
        "int out(int)", "int tick(int)", "int told(int,int)", "int level(int)", "int gain(int)", "int about(int)",
        "CordBoard()", "int NONE = -1", "int UNKNOWN = -101", "int OUTSIDE = -102", "int FULL = -103");

    public static void main(String[] args) throws IllegalAccessException {
        Set<String> found = new TreeSet<>();
        Set<String> publicNames = new TreeSet<>();
        Set<String> privateNames = new TreeSet<>();
        for (Method m : CordBoard.class.getDeclaredMethods()) {
            boolean hidden = Modifier.isPrivate(m.getModifiers());
            (hidden ? privateNames : publicNames).add(m.getName());
            if (!hidden) found.add(m.getReturnType() + " " + m.getName() + types(m.getParameterTypes()));
        }
        for (Constructor<?> c : CordBoard.class.getDeclaredConstructors()) {
            found.add("CordBoard" + types(c.getParameterTypes()));
        }
        for (Field f : CordBoard.class.getDeclaredFields()) {
            if (!Modifier.isPrivate(f.getModifiers())) found.add("int " + f.getName() + " = " + f.getInt(null));
        }
        int wrong = 0;
        if (!found.equals(FACE)) {
            wrong++;
            System.out.println("the face is " + found);
        }
        privateNames.retainAll(publicNames);
        if (!privateNames.isEmpty()) {
            wrong++;
            System.out.println("private methods with the name of a public one: " + privateNames);
        }
        int modifiers = CordBoard.class.getModifiers();
        if (!Modifier.isPublic(modifiers) || !Modifier.isFinal(modifiers)) {
            wrong++;
            System.out.println("the class is not public and final");
        }
        System.out.println(wrong == 0 ? "the face is as due" : "the face is not as due");
        if (wrong != 0) System.exit(1);
    }

    private static String types(Class<?>[] types) {
        StringBuilder text = new StringBuilder("(");
        for (int i = 0; i < types.length; i++) text.append(i == 0 ? "" : ",").append(types[i]);
        return text.append(")").toString();
    }
}
