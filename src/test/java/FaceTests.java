import java.lang.reflect.Constructor;
import java.lang.reflect.Field;
import java.lang.reflect.Method;
import java.lang.reflect.Modifier;
import java.util.ArrayList;
import java.util.Arrays;
import java.util.List;
import java.util.TreeSet;

/** The public face is the document's and nothing else. */
public final class FaceTests {
    private static final String[] FACE = {"letter 1", "text 0", "word 2", "bird 2", "bitter 2", "ink 2", "watch 3", "hour 0",
        "anew 0", "left 1", "eaten 1", "meanings 0", "remain 0", "holds 1", "boys 1", "guard 0", "winter 1", "becomes 0",
        "danger 0", "lasts 1", "mixed 2", "tastes 2", "fitting 2", "row 1", "judge 0", "seeds 2", "image 0", "on 0", "count 1"};

    private static int wrong = 0;

    private static void due(boolean holds, String what) {
        if (holds) return;
        wrong++;
        System.out.println("face: " + what);
    }

    private static void face() {
        Class<?> c = EatenByDusk.class;
        due(Modifier.isPublic(c.getModifiers()) && Modifier.isFinal(c.getModifiers()), "the class is not public and final");
        due(c.getSuperclass() == Object.class && c.getInterfaces().length == 0, "the class is under another");
        List<String> open = new ArrayList<>();
        for (Method method : c.getDeclaredMethods()) {
            if (Modifier.isPrivate(method.getModifiers())) {
                for (String name : FACE) {
                    due(!name.startsWith(method.getName() + " "), "a private method bears a public one's name: " + method);
                }
                continue;
            }
            due(method.getModifiers() == Modifier.PUBLIC && method.getReturnType() == int.class, "not of the face: " + method);
            for (Class<?> type : method.getParameterTypes()) {
                due(type == int.class, "not of the face: " + method);
            }
            open.add(method.getName() + " " + method.getParameterCount());
        }
        due(new TreeSet<>(open).equals(new TreeSet<>(Arrays.asList(FACE))) && open.size() == FACE.length, "methods: " + open);
        Constructor<?>[] constructors = c.getDeclaredConstructors();
        due(constructors.length == 1 && constructors[0].getModifiers() == Modifier.PUBLIC
            && constructors[0].getParameterCount() == 0, "the constructor");
        due(c.getDeclaredClasses().length <= 12, "too many classes");
        for (Class<?> inside : c.getDeclaredClasses()) {
            due(Modifier.isStatic(inside.getModifiers()) && !Modifier.isPublic(inside.getModifiers()), "class inside: " + inside);
            fields(inside);
        }
        fields(c);
    }

    private static void fields(Class<?> c) {
        int own = 0;
        for (Field field : c.getDeclaredFields()) {
            int is = field.getModifiers();
            if (Modifier.isStatic(is)) {
                due(Modifier.isPrivate(is) && Modifier.isFinal(is), "static field: " + field);
            } else {
                own++;
                due(c != EatenByDusk.class || Modifier.isPrivate(is), "field: " + field);
            }
        }
        due(own <= 20, "too many fields: " + c);
    }

    public static void main(String[] args) {
        face();
        System.out.println("FaceTests: " + wrong + " wrong");
        if (wrong != 0) System.exit(1);
    }
}
