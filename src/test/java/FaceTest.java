import java.lang.reflect.Constructor;
import java.lang.reflect.Field;
import java.lang.reflect.Method;
import java.lang.reflect.Modifier;
import java.util.Set;
import java.util.TreeSet;

/** The face is that of the document, and the class shows nothing else (rule 1 of LANGUAGE.md). */
public final class FaceTest {
    private static final Set<String> METHODS = Set.of(
        "int hang(int,int)", "int melt(int,int)", "int settle(int,int,int)", "int plan(int,int)",
        "int splice(int,int)", "int feast(int,int)", "int set(int,int)", "int turns(int)",
        "int append(int)", "int clearText()", "int fault()", "int run()", "int undo()",
        "int save()", "int restore()", "int town(int,int)", "int bell(int,int,int)",
        "int count(int)", "int loudness(int)", "int heard(int,int)", "int winner(int)",
        "int ifPlanned(int,int)", "int bestPlan(int)", "int pointsIn(int,int)",
        "double share(int)");

    private static final Set<String> CONSTANTS = Set.of(
        "NO_SUCH=-1", "BAD_VALUE=-2", "TOO_MANY=-3", "NOT_POSSIBLE=-4", "NONE=-5", "FADE=0",
        "REST=1");

    public static void main(String[] args) throws IllegalAccessException {
        Due due = new Due();
        due.begin("face");
        due.isTrue("the class is final", Modifier.isFinal(BellTowns.class.getModifiers()));
        due.isTrue("the class is public", Modifier.isPublic(BellTowns.class.getModifiers()));
        Set<String> methods = shownMethods();
        due.isTrue("the methods " + methods, methods.equals(METHODS));
        Set<String> constants = shownConstants();
        due.isTrue("the constants " + constants, constants.equals(CONSTANTS));
        Constructor<?>[] constructors = BellTowns.class.getDeclaredConstructors();
        due.is("constructors", constructors.length, 1);
        due.is("parameters", constructors[0].getParameterCount(), 0);
        due.isTrue("a public constructor", Modifier.isPublic(constructors[0].getModifiers()));
        due.isTrue("private names apart", privateNamesApart());
        due.end();
    }

    private static Set<String> shownMethods() {
        Set<String> shown = new TreeSet<>();
        for (Method method : BellTowns.class.getDeclaredMethods()) {
            if (Modifier.isPrivate(method.getModifiers()) || method.isSynthetic()) {
                continue;
            }
            StringBuilder text = new StringBuilder();
            if (!Modifier.isPublic(method.getModifiers())) {
                text.append("not public ");
            }
            text.append(method.getReturnType()).append(' ').append(method.getName()).append('(');
            for (int i = 0; i < method.getParameterCount(); i++) {
                text.append(i == 0 ? "" : ",").append(method.getParameterTypes()[i]);
            }
            shown.add(text.append(')').toString());
        }
        return shown;
    }

    private static Set<String> shownConstants() throws IllegalAccessException {
        Set<String> shown = new TreeSet<>();
        int constant = Modifier.PUBLIC | Modifier.STATIC | Modifier.FINAL;
        for (Field field : BellTowns.class.getDeclaredFields()) {
            if (field.getModifiers() == constant) {
                shown.add(field.getName() + "=" + field.getInt(null));
            } else if (!Modifier.isPrivate(field.getModifiers())) {
                shown.add("not a constant: " + field.getName());
            }
        }
        return shown;
    }

    private static boolean privateNamesApart() {
        Set<String> shown = new TreeSet<>();
        Set<String> hidden = new TreeSet<>();
        for (Method method : BellTowns.class.getDeclaredMethods()) {
            (Modifier.isPublic(method.getModifiers()) ? shown : hidden).add(method.getName());
        }
        for (Class<?> inside : BellTowns.class.getDeclaredClasses()) {
            for (Method method : inside.getDeclaredMethods()) {
                hidden.add(method.getName());
            }
        }
        hidden.retainAll(shown);
        return hidden.isEmpty();
    }
}
