import java.lang.reflect.Constructor;
import java.lang.reflect.Field;
import java.lang.reflect.Method;
import java.lang.reflect.Modifier;
import java.util.ArrayList;
import java.util.Arrays;
import java.util.List;
import java.util.TreeSet;

/** The public face is the document's and nothing more; the constants are the document's. */
public final class FaceTest {
    private static final String[] METHODS = {
        "int type(int)", "int clear()", "int kitchen()", "int pot(int)", "int brother(int,int)", "int off(int,int)",
        "int now(int)", "int adds(int)", "int waters()", "int sends(int)", "int colds(int,int)", "int undo()",
        "int plan(int,int)", "int middle(int)", "int parted(int)", "int odds(int,int,int)", "int sees(int)",
        "int forget()", "int likings(int,int)", "int ask()", "int rate(int,int)", "int keep(int)", "int back(int)",
        "int count(int)", "long trace()"};
    private static final String[] CONSTANTS = {"BAD", "STATE", "FULL", "NONE", "NO"};

    private static String shape(Method method) {
        List<String> types = new ArrayList<>();
        for (Class<?> type : method.getParameterTypes()) {
            types.add(type.getName());
        }
        return method.getReturnType().getName() + " " + method.getName() + "(" + String.join(",", types) + ")";
    }

    private static void methods() {
        TreeSet<String> names = new TreeSet<>();
        TreeSet<String> shapes = new TreeSet<>();
        for (Method method : TastelessCook.class.getDeclaredMethods()) {
            if (!Modifier.isPrivate(method.getModifiers())) {
                Check.holds(shape(method) + " is public", Modifier.isPublic(method.getModifiers()));
                Check.holds(shape(method) + " is no static one", !Modifier.isStatic(method.getModifiers()));
                shapes.add(shape(method));
                names.add(method.getName());
            }
        }
        Check.holds("methods are as told", shapes.equals(new TreeSet<>(Arrays.asList(METHODS))));
        for (Method method : TastelessCook.class.getDeclaredMethods()) {
            if (Modifier.isPrivate(method.getModifiers())) {
                Check.holds(method.getName() + " is no public name", !names.contains(method.getName()));
            }
        }
    }

    private static void fields() {
        TreeSet<String> names = new TreeSet<>();
        for (Field field : TastelessCook.class.getDeclaredFields()) {
            int modifiers = field.getModifiers();
            if (Modifier.isStatic(modifiers)) {
                Check.holds(field.getName() + " is final", Modifier.isFinal(modifiers));
            }
            if (!Modifier.isPrivate(modifiers)) {
                names.add(field.getName());
                Check.holds(field.getName() + " is a constant", Modifier.isPublic(modifiers)
                    && Modifier.isStatic(modifiers) && field.getType() == int.class);
            }
        }
        Check.holds("constants are as told", names.equals(new TreeSet<>(Arrays.asList(CONSTANTS))));
        Check.due("BAD", TastelessCook.BAD, -1);
        Check.due("STATE", TastelessCook.STATE, -2);
        Check.due("FULL", TastelessCook.FULL, -3);
        Check.due("NONE", TastelessCook.NONE, -9);
        Check.due("NO", TastelessCook.NO, -1000000);
    }

    private static void classes() {
        Class<?> cook = TastelessCook.class;
        Check.holds("public and final", Modifier.isPublic(cook.getModifiers()) && Modifier.isFinal(cook.getModifiers()));
        Check.due("constructors", cook.getDeclaredConstructors().length, 1);
        for (Constructor<?> constructor : cook.getDeclaredConstructors()) {
            Check.holds("its constructor is public", Modifier.isPublic(constructor.getModifiers()));
            Check.due("its parameters", constructor.getParameterCount(), 0);
        }
        Check.holds("some twelve classes", cook.getDeclaredClasses().length < 12);
        for (Class<?> inside : cook.getDeclaredClasses()) {
            Check.holds(inside.getName() + " is static", Modifier.isStatic(inside.getModifiers()));
            Check.holds(inside.getName() + " is not public", !Modifier.isPublic(inside.getModifiers()));
            Check.holds(inside.getName() + " has few fields", inside.getDeclaredFields().length <= 20);
        }
    }

    public static void main(String[] args) {
        methods();
        fields();
        classes();
        Check.finish("FaceTest");
    }
}
