import java.lang.reflect.Constructor;
import java.lang.reflect.Field;
import java.lang.reflect.Method;
import java.lang.reflect.Modifier;
import java.util.Set;
import java.util.TreeSet;

/** The public face: its members, no other ones, and none of their names inside. */
public final class FaceTest {
    private static final Set<String> METHODS = Set.of("int set(int,int)", "int shot(int,int,int,int,int)",
            "int takeOut(int)", "int light(int,int,int)", "int wish(int,int,int)", "int move(int,int)",
            "int split(int,int)", "int join(int)", "int print()", "int correct(int)", "int correctAll()",
            "int card()", "int trim(int,int)", "int lamp(int)", "int of(int,int)", "int inColour(int,int,int)",
            "int ofLamp(int,int)", "int count(int)", "int needs(int,int)", "int ifLight(int,int,int)",
            "int lasts(int)", "int bestTrim(int,int)", "int printsNeeded()", "int put(long)", "int wipe()",
            "int fault()", "int carryOut()", "int undo()", "int save(int)", "int restore(int)");

    public static void main(String[] args) throws IllegalAccessException {
        constants();
        methods();
        others();
        Check.end();
    }

    private static void constants() throws IllegalAccessException {
        String[] names = {"NO_SUCH", "BAD_VALUE", "BAD_TEXT", "TOO_MANY", "NOT_POSSIBLE", "NONE",
                "STEP", "SLACK", "JUMP", "RATE"};
        int[] values = {-1, -2, -3, -4, -5, -6, 0, 1, 2, 3};
        Set<String> found = new TreeSet<>();
        for (Field field : TimingLights.class.getDeclaredFields()) {
            if (!Modifier.isPrivate(field.getModifiers())) {
                found.add(field.getName());
                Check.due(field + " is public, static and final", field.getModifiers(),
                        Modifier.PUBLIC | Modifier.STATIC | Modifier.FINAL);
                for (int i = 0; i < names.length; i++) {
                    if (names[i].equals(field.getName())) {
                        Check.due(names[i], field.getInt(null), values[i]);
                    }
                }
            }
        }
        Check.due("the constants are " + found, found.equals(Set.of(names)) ? 1 : 0, 1);
    }

    private static void methods() {
        Set<String> found = new TreeSet<>();
        Set<String> names = new TreeSet<>();
        for (Method method : TimingLights.class.getDeclaredMethods()) {
            if (!Modifier.isPrivate(method.getModifiers())) {
                Check.due(method + " is public", method.getModifiers(), Modifier.PUBLIC);
                found.add(signature(method));
                names.add(method.getName());
            }
        }
        Check.due("the methods are " + found, found.equals(METHODS) ? 1 : 0, 1);
        for (Method method : TimingLights.class.getDeclaredMethods()) {
            if (Modifier.isPrivate(method.getModifiers())) {
                Check.due(method + " has a name of its own", names.contains(method.getName()) ? 1 : 0, 0);
            }
        }
    }

    private static String signature(Method method) {
        StringBuilder text = new StringBuilder(method.getReturnType() + " " + method.getName() + "(");
        for (Class<?> type : method.getParameterTypes()) {
            text.append(text.charAt(text.length() - 1) == '(' ? "" : ",").append(type);
        }
        return text.append(")").toString();
    }

    private static void others() {
        Check.due("the class is public and final", TimingLights.class.getModifiers(),
                Modifier.PUBLIC | Modifier.FINAL);
        for (Constructor<?> constructor : TimingLights.class.getDeclaredConstructors()) {
            Check.due(constructor + " is public", constructor.getModifiers(), Modifier.PUBLIC);
            Check.due(constructor + " takes nothing", constructor.getParameterCount(), 0);
        }
        for (Class<?> inside : TimingLights.class.getDeclaredClasses()) {
            int modifiers = inside.getModifiers();
            Check.due(inside + " is static", modifiers & Modifier.STATIC, Modifier.STATIC);
            Check.due(inside + " is not public", modifiers & (Modifier.PUBLIC | Modifier.PROTECTED), 0);
        }
    }
}
