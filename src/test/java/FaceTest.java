import java.lang.reflect.Constructor;
import java.lang.reflect.Field;
import java.lang.reflect.Method;
import java.lang.reflect.Modifier;
import java.util.ArrayList;
import java.util.Arrays;
import java.util.Collections;
import java.util.List;

/** The class shows the document's face, with its throws clauses, and nothing else. */
final class FaceTest {
    private static final String NO = " throws IndexOutOfBoundsException";
    private static final String ARG = "IllegalArgumentException";
    private static final String STATE = "IllegalStateException";
    private static final String ALL = NO + "," + ARG + "," + STATE;
    private static final String NO_ARG = NO + "," + ARG;
    private static final String NO_STATE = NO + "," + STATE;

    private static final String[] METHODS = {
        "int party(int,int)" + ALL,
        "int work(int,int)" + ALL,
        "int value(int,int)" + NO_ARG,
        "int pass(int) throws " + ARG + "," + STATE,
        "int weight(int,int)" + NO_ARG,
        "int word(int,int,boolean)" + NO_STATE,
        "void paper(int,int,int)" + NO_ARG,
        "int right(int,int)" + NO_ARG,
        "int bar(int,int)" + NO_ARG,
        "boolean seal(int,boolean)" + NO_STATE,
        "int bring(int,int)" + NO_STATE,
        "void list(int)" + NO_STATE,
        "int fail(int)" + NO_STATE,
        "int sell(int,int,int,int)" + ALL,
        "void consign(int,int,int,int,int)" + ALL,
        "int back(int)" + NO_STATE,
        "int deal(int,int,int)" + ALL,
        "boolean tell(int,int,int)" + NO_STATE,
        "int restore(int,int)" + NO_STATE,
        "int lend(int,int,int,int,int)" + ALL,
        "int repay(int)" + NO_STATE,
        "int seize(int)" + NO_STATE,
        "int assign(int,int,int)" + ALL,
        "int bars(int,int,int,int)" + NO_ARG,
        "int barredBy(int,int,int,int)" + NO_ARG,
        "int price(int,int)" + NO,
        "int ofParty(int,int)" + NO_ARG,
        "int ofWork(int,int)" + NO_ARG,
        "int ofLot(int,int)" + NO_ARG,
        "int ofLoan(int,int)" + NO_ARG,
        "int doubt(int,int)" + NO_ARG,
        "int gaps(int,int,int)" + NO_ARG,
        "long index()",
    };

    public static void main(String[] args) {
        theClassIsPublicAndFinal();
        theMethodsAreThoseOfTheDocument();
        theOnlyConstructorTakesNothing();
        theConstantsAreThoseOfTheDocument();
        allElseIsPrivate();
        Due.end("FaceTest");
    }

    private static void theClassIsPublicAndFinal() {
        int modifiers = FreePort.class.getModifiers();
        Due.is("public", true, Modifier.isPublic(modifiers));
        Due.is("final", true, Modifier.isFinal(modifiers));
        Due.is("interfaces", 0, FreePort.class.getInterfaces().length);
        Due.same("above it", "Object", FreePort.class.getSuperclass().getSimpleName());
        Due.same("package", "", FreePort.class.getPackageName());
    }

    private static void theMethodsAreThoseOfTheDocument() {
        List<String> shown = new ArrayList<>();
        for (Method method : FreePort.class.getDeclaredMethods()) {
            if (!Modifier.isPrivate(method.getModifiers())) {
                Due.is(method.getName() + " is public", true, Modifier.isPublic(method.getModifiers()));
                Due.is(method.getName() + " is static", false, Modifier.isStatic(method.getModifiers()));
                shown.add(told(method));
            }
        }
        List<String> due = new ArrayList<>(Arrays.asList(METHODS));
        Collections.sort(due);
        Collections.sort(shown);
        Due.same("methods", due.toString(), shown.toString());
    }

    private static String told(Method method) {
        String text = method.getReturnType() + " " + method.getName() + "(" + names(method.getParameterTypes()) + ")";
        Class<?>[] thrown = method.getExceptionTypes();
        return thrown.length == 0 ? text : text + " throws " + names(thrown);
    }

    private static String names(Class<?>[] types) {
        List<String> names = new ArrayList<>();
        for (Class<?> type : types) {
            names.add(type.getSimpleName());
        }
        return String.join(",", names);
    }

    private static void theOnlyConstructorTakesNothing() {
        Constructor<?>[] all = FreePort.class.getDeclaredConstructors();
        Due.is("constructors", 1, all.length);
        Due.is("its parameters", 0, all[0].getParameterCount());
        Due.is("it is public", true, Modifier.isPublic(all[0].getModifiers()));
    }

    private static void theConstantsAreThoseOfTheDocument() {
        Due.is("NONE", -1, FreePort.NONE);
        Due.is("FAILED", 1, FreePort.FAILED);
        Due.is("SHORT", 2, FreePort.SHORT);
        Due.is("CONSIGNED", 3, FreePort.CONSIGNED);
        Due.is("BARRED", 4, FreePort.BARRED);
        Due.is("POOR", 5, FreePort.POOR);
        Due.is("PUNISHED", 6, FreePort.PUNISHED);
        Due.is("FULL", 7, FreePort.FULL);
        List<String> shown = new ArrayList<>();
        for (Field field : FreePort.class.getDeclaredFields()) {
            int modifiers = field.getModifiers();
            if (!Modifier.isPrivate(modifiers)) {
                Due.is(field.getName() + " is a constant", true,
                    Modifier.isPublic(modifiers) && Modifier.isStatic(modifiers) && Modifier.isFinal(modifiers)
                        && field.getType() == int.class);
                shown.add(field.getName());
            }
        }
        Collections.sort(shown);
        Due.same("constants", "[BARRED, CONSIGNED, FAILED, FULL, NONE, POOR, PUNISHED, SHORT]", shown.toString());
    }

    private static void allElseIsPrivate() {
        List<String> publicNames = new ArrayList<>();
        for (Method method : FreePort.class.getDeclaredMethods()) {
            if (Modifier.isPublic(method.getModifiers())) {
                publicNames.add(method.getName());
            }
        }
        for (Method method : FreePort.class.getDeclaredMethods()) {
            if (Modifier.isPrivate(method.getModifiers())) {
                Due.is(method.getName() + " bears a public name", false, publicNames.contains(method.getName()));
            }
        }
        for (Class<?> inside : FreePort.class.getDeclaredClasses()) {
            Due.is(inside.getName() + " is static", true, Modifier.isStatic(inside.getModifiers()));
            Due.is(inside.getName() + " is shown", false,
                Modifier.isPublic(inside.getModifiers()) || Modifier.isProtected(inside.getModifiers()));
            Due.is(inside.getName() + " has many fields", false, inside.getDeclaredFields().length > 20);
        }
        Due.is("many classes", false, FreePort.class.getDeclaredClasses().length > 11);
    }
}
