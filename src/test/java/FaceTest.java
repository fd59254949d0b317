import java.lang.reflect.Constructor;
import java.lang.reflect.Field;
import java.lang.reflect.Method;
import java.lang.reflect.Modifier;
import java.util.ArrayList;
import java.util.Arrays;
import java.util.Collections;
import java.util.List;

/** The public face of the document, and the rules of LANGUAGE.md that can be seen on the compiled class. */
final class FaceTest {
    private static final String[] FACE = {
        "boolean code(int, int, int)", "boolean policy(int, int, int)", "int propose(int, int)",
        "int endorse(int, int)", "boolean submit(int)", "int elect(int)", "int cut(int)", "int copy(int, int)",
        "int power(int, boolean)", "int deliver(int)", "boolean tear(int)", "int transaction(int, int)",
        "int access(int, int, int)", "int state(int, int, int)", "int flag(int, int, int)", "int chain(int, int)",
        "int log(int, int, int)", "int about(int)",
    };
    private static final Check check = new Check();

    public static void main(String[] args) {
        Class<?> face = EndorsedLedger.class;
        check.yes("the class is public and final", isPublicFinal(face.getModifiers()));
        check.yes("it has no package", face.getPackageName().isEmpty());
        publicMembersAreThoseOfTheDocument(face);
        othersArePrivate(face);
        classesInsideAreStatic(face);
        noPrivateMethodHasAPublicName(face);
        sizesAreSmall(face);
        check.end();
    }

    private static boolean isPublicFinal(int modifiers) {
        return Modifier.isPublic(modifiers) && Modifier.isFinal(modifiers);
    }

    private static void publicMembersAreThoseOfTheDocument(Class<?> face) {
        List<String> found = new ArrayList<>();
        for (Method method : face.getDeclaredMethods()) {
            if (Modifier.isPublic(method.getModifiers())) {
                found.add(signature(method));
                check.due(method.getName() + " throws", method.getExceptionTypes().length, 0);
            }
        }
        List<String> due = new ArrayList<>(Arrays.asList(FACE));
        Collections.sort(due);
        Collections.sort(found);
        check.yes("public methods " + found, found.equals(due));
        Constructor<?>[] constructors = face.getDeclaredConstructors();
        check.due("constructors", constructors.length, 1);
        check.due("its parameters", constructors[0].getParameterCount(), 0);
        check.yes("it is public", Modifier.isPublic(constructors[0].getModifiers()));
        check.due("public fields", face.getFields().length, 1);
        Field none = face.getFields()[0];
        check.yes("NONE", none.getName().equals("NONE") && none.getType() == int.class);
        check.yes("NONE is a constant", isPublicFinal(none.getModifiers()) && Modifier.isStatic(none.getModifiers()));
    }

    private static String signature(Method method) {
        List<String> types = new ArrayList<>();
        for (Class<?> type : method.getParameterTypes()) {
            types.add(type.getName());
        }
        return method.getReturnType().getName() + " " + method.getName() + "(" + String.join(", ", types) + ")";
    }

    private static void othersArePrivate(Class<?> face) {
        for (Method method : face.getDeclaredMethods()) {
            int modifiers = method.getModifiers();
            check.yes(method.getName(), Modifier.isPublic(modifiers) || Modifier.isPrivate(modifiers));
        }
        for (Field field : face.getDeclaredFields()) {
            int modifiers = field.getModifiers();
            check.yes(field.getName(), field.getName().equals("NONE") || Modifier.isPrivate(modifiers));
        }
    }

    private static void classesInsideAreStatic(Class<?> face) {
        for (Class<?> inside : face.getDeclaredClasses()) {
            check.yes(inside.getName() + " is static", Modifier.isStatic(inside.getModifiers()));
            check.no(inside.getName() + " is public", Modifier.isPublic(inside.getModifiers()));
        }
    }

    private static void noPrivateMethodHasAPublicName(Class<?> face) {
        List<Class<?>> all = new ArrayList<>(Arrays.asList(face.getDeclaredClasses()));
        all.add(face);
        for (Class<?> one : all) {
            for (Method method : one.getDeclaredMethods()) {
                if (!Modifier.isPublic(method.getModifiers())) {
                    check.no(one.getName() + "." + method.getName(), isOfTheFace(method.getName()));
                }
            }
        }
    }

    private static boolean isOfTheFace(String name) {
        for (String signature : FACE) {
            if (signature.contains(" " + name + "(")) {
                return true;
            }
        }
        return false;
    }

    private static void sizesAreSmall(Class<?> face) {
        List<Class<?>> all = new ArrayList<>(Arrays.asList(face.getDeclaredClasses()));
        all.add(face);
        check.yes("at most twelve classes", all.size() <= 12);
        for (Class<?> one : all) {
            int fields = 0;
            for (Field field : one.getDeclaredFields()) {
                boolean isStatic = Modifier.isStatic(field.getModifiers());
                check.yes("a static field is final", !isStatic || Modifier.isFinal(field.getModifiers()));
                fields += isStatic ? 0 : 1;
            }
            check.yes(one.getName() + " has at most twenty fields", fields <= 20);
            for (Method method : one.getDeclaredMethods()) {
                check.yes(method.getName() + " takes at most seven", method.getParameterCount() <= 7);
            }
        }
    }
}
