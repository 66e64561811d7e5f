import java.lang.reflect.Constructor;
import java.lang.reflect.Field;
import java.lang.reflect.Method;
import java.lang.reflect.Modifier;
import java.util.Arrays;
import java.util.Set;
import java.util.TreeSet;
import java.util.stream.Collectors;

/** The class has the document's face and no more than it. */
public final class FaceTest {
    private static final String ELEMENT = " NoSuchElementException";
    private static final String ARGUMENT = " IllegalArgumentException";

    private static final String[] FACE = {
        "feed(int,int,int,int,int)", "batch(int)", "put(int,int)", "drop(int)", "steps(int)", "budget(int)",
        "stride(int)", "find(int)", "looks(int,boolean)" + ELEMENT, "falls(int,int,int)" + ELEMENT,
        "bounds(int,int,int,boolean)" + ELEMENT, "route(int,int,int)" + ELEMENT, "next(int)" + ELEMENT,
        "nth(int)" + ELEMENT, "waste(int)" + ELEMENT, "many(int,int)" + ELEMENT, "trace(int,int)" + ELEMENT,
        "level(int,int)" + ELEMENT, "row(int,int,int)" + ELEMENT, "thing(int,int,int,int)" + ELEMENT,
        "entry(int,int,int,int)" + ELEMENT, "count(int)" + ELEMENT, "toll(int)" + ELEMENT,
        "ahead(int,int)" + ELEMENT + ARGUMENT, "calm(int)" + ARGUMENT, "due(int)" + ELEMENT, "pack()", "view(int)",
        "leave(int)", "seen(int,int)" + ELEMENT, "against(int,int)" + ELEMENT, "between(int,int)" + ELEMENT,
        "restore(int)"};

    private static int wrong = 0;

    private static void need(boolean holds, String what) {
        if (!holds) {
            wrong++;
            System.out.println("face: " + what);
        }
    }

    private static String names(Class<?>[] types, String between) {
        return Arrays.stream(types).map(Class::getSimpleName).collect(Collectors.joining(between));
    }

    private static String told(Method method) {
        String thrown = names(method.getExceptionTypes(), " ");
        return method.getName() + "(" + names(method.getParameterTypes(), ",") + ")"
                + (thrown.isEmpty() ? "" : " " + thrown);
    }

    public static void main(String[] args) {
        Class<?> face = RowStore.class;
        Set<String> open = new TreeSet<>();
        Set<String> openNames = new TreeSet<>();
        for (Method method : face.getDeclaredMethods()) {
            if (!Modifier.isPrivate(method.getModifiers())) {
                need(Modifier.isPublic(method.getModifiers()), method.getName() + " is not public");
                need(method.getReturnType() == int.class, method.getName() + " answers no int");
                need(!Modifier.isStatic(method.getModifiers()), method.getName() + " is static");
                open.add(told(method));
                openNames.add(method.getName());
            }
        }
        need(open.equals(new TreeSet<>(Arrays.asList(FACE))), "the methods are " + open);
        for (Field field : face.getDeclaredFields()) {
            need(Modifier.isPrivate(field.getModifiers()) || field.getName().equals("NONE"), field.getName());
            need(!Modifier.isStatic(field.getModifiers()) || Modifier.isFinal(field.getModifiers()), field.getName());
        }
        Constructor<?>[] makers = face.getDeclaredConstructors();
        need(makers.length == 1 && Modifier.isPublic(makers[0].getModifiers())
                && makers[0].getParameterCount() == 0, "the constructor");
        need(Modifier.isFinal(face.getModifiers()) && Modifier.isPublic(face.getModifiers()), "public and final");
        for (Class<?> inside : face.getDeclaredClasses()) {
            need(Modifier.isStatic(inside.getModifiers()) && !Modifier.isPublic(inside.getModifiers()),
                    inside.getSimpleName());
            for (Method method : inside.getDeclaredMethods()) {
                need(!openNames.contains(method.getName()), inside.getSimpleName() + "." + method.getName());
            }
        }
        for (Method method : face.getDeclaredMethods()) {
            need(!Modifier.isPrivate(method.getModifiers()) || !openNames.contains(method.getName()),
                    method.getName() + " is private, too");
        }
        if (wrong > 0) {
            System.exit(1);
        }
    }
}
