import java.lang.reflect.Constructor;
import java.lang.reflect.Field;
import java.lang.reflect.Method;
import java.lang.reflect.Modifier;
import java.util.TreeSet;

/** The public face of the document, and nothing beside it that is not private. */
public final class FaceTest {
    private static final String[] METHODS = {
        "int shoot(int,boolean)", "int bend(int,boolean)", "int pull(int)", "int bell(int)", "int worth(int,int)",
        "int set(int,int)", "int empty()", "int append(int)", "int clear()", "int fault(int)", "int board()",
        "int shots()", "int why(int)", "int sign(int)", "int pin(int,int)", "int pocket(int,int)", "int reach(int)",
        "int ways(int,int)", "int count(int)", "double mean()", "int ends(int)", "int ifShot(int,boolean,int,int)",
        "int best(boolean)", "int undo()", "int save()", "int restore()"};
    private static final String[] CONSTANTS = {
        "INVALID_ARGUMENT=-1", "NOT_POSSIBLE=-2", "LIMIT_REACHED=-3", "NOT_FOUND=-4", "TILT=0", "FULL=1"};

    public static void main(String[] args) throws IllegalAccessException {
        Check check = new Check("FaceTest");
        check.same("the class is public and final", BentPins.class.getModifiers(), Modifier.PUBLIC | Modifier.FINAL);
        TreeSet<String> methods = new TreeSet<>();
        TreeSet<String> names = new TreeSet<>();
        for (Method method : BentPins.class.getDeclaredMethods()) {
            if (!Modifier.isPrivate(method.getModifiers())) {
                check.same("modifiers of " + method.getName(), method.getModifiers(), Modifier.PUBLIC);
                methods.add(signature(method));
                names.add(method.getName());
            }
        }
        check.holds("the methods are those of the document", methods.equals(new TreeSet<>(java.util.List.of(METHODS))));
        for (Method method : BentPins.class.getDeclaredMethods()) {
            boolean hidden = Modifier.isPrivate(method.getModifiers());
            check.holds("no private method is named " + method.getName(), !hidden || !names.contains(method.getName()));
        }
        TreeSet<String> constants = new TreeSet<>();
        for (Field field : BentPins.class.getDeclaredFields()) {
            if (!Modifier.isPrivate(field.getModifiers())) {
                check.same("modifiers of " + field.getName(), field.getModifiers(),
                    Modifier.PUBLIC | Modifier.STATIC | Modifier.FINAL);
                constants.add(field.getName() + "=" + field.getInt(null));
            }
        }
        check.holds("the constants are those of the document", constants.equals(new TreeSet<>(java.util.List.of(CONSTANTS))));
        Constructor<?>[] constructors = BentPins.class.getDeclaredConstructors();
        check.same("constructors", constructors.length, 1);
        check.same("it is public", constructors[0].getModifiers(), Modifier.PUBLIC);
        check.same("its parameters", constructors[0].getParameterCount(), 0);
        check.holds("no more than twelve classes", BentPins.class.getDeclaredClasses().length < 12);
        check.end();
    }

    private static String signature(Method method) {
        StringBuilder text = new StringBuilder();
        text.append(method.getReturnType()).append(' ').append(method.getName()).append('(');
        String between = "";
        for (Class<?> type : method.getParameterTypes()) {
            text.append(between).append(type);
            between = ",";
        }
        return text.append(')').toString();
    }
}
