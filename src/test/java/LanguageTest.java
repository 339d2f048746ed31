import java.lang.reflect.Array;
import java.lang.reflect.Constructor;
import java.lang.reflect.Field;
import java.lang.reflect.Method;
import java.lang.reflect.Modifier;
import java.util.ArrayList;
import java.util.Arrays;
import java.util.Collections;
import java.util.IdentityHashMap;
import java.util.List;
import java.util.Map;

/** The rules of LANGUAGE.md that the loaded classes tell: the face, how many classes and fields, the room of an object. */
public final class LanguageTest {
    private static final String FACE = "assemble(int):int back():void byteAt(int):int feed(int,int,int,int,int):boolean illAt():int label(int):long "
            + "place():long register(int):long run(int):int special(int):long stopped():int store(int,int,int):boolean taken(int):int";

    public static void main(String[] args) throws IllegalAccessException {
        face();
        inside();
        room();
        Kit.end();
    }

    private static void face() {
        List<String> methods = new ArrayList<>();
        for (Method method : LittleMix.class.getDeclaredMethods()) {
            if (!Modifier.isPrivate(method.getModifiers())) {
                methods.add(signature(method));
                Kit.due(method + " is public and nothing else", method.getModifiers(), Modifier.PUBLIC);
            }
        }
        Collections.sort(methods);
        if (!String.join(" ", methods).equals(FACE)) {
            System.out.println(methods);
        }
        Kit.due("the methods of the face", String.join(" ", methods).equals(FACE), true);
        for (Field field : LittleMix.class.getDeclaredFields()) {
            boolean constant = field.getName().equals("NONE");
            Kit.due("field " + field.getName() + " is private", Modifier.isPrivate(field.getModifiers()), !constant);
            Kit.due("field " + field.getName() + " is public", Modifier.isPublic(field.getModifiers()), constant);
        }
        Constructor<?>[] constructors = LittleMix.class.getDeclaredConstructors();
        Kit.due("constructors", constructors.length, 1);
        Kit.due("the constructor's parameters", constructors[0].getParameterCount(), 0);
        Kit.due("the constructor is public", constructors[0].getModifiers(), Modifier.PUBLIC);
        Kit.due("public and final", LittleMix.class.getModifiers(), Modifier.PUBLIC | Modifier.FINAL);
    }

    private static String signature(Method method) {
        List<String> types = new ArrayList<>();
        for (Class<?> type : method.getParameterTypes()) {
            types.add(type.getSimpleName());
        }
        return method.getName() + "(" + String.join(",", types) + "):" + method.getReturnType().getSimpleName();
    }

    private static void inside() {
        Class<?>[] classes = LittleMix.class.getDeclaredClasses();
        Kit.due("at most twelve classes", classes.length + 1 <= 12, true);
        for (Class<?> inner : classes) {
            Kit.due(inner + " is static", Modifier.isStatic(inner.getModifiers()), true);
            int fields = 0;
            for (Field field : inner.getDeclaredFields()) {
                boolean fixed = Modifier.isStatic(field.getModifiers());
                fields += fixed ? 0 : 1;
                Kit.due(field + " is final", !fixed || Modifier.isFinal(field.getModifiers()), true);
            }
            Kit.due(inner + " has at most twenty fields", fields <= 20, true);
            for (Method method : inner.getDeclaredMethods()) {
                Kit.due(method + " has at most seven parameters", method.getParameterCount() <= 7, true);
                Kit.due(method + " bears no name of the face", FACE.matches("(.* )?" + method.getName() + "\\(.*"), false);
            }
        }
    }

    /** What a run of calls may make is counted, so an object must be small. */
    private static void room() throws IllegalAccessException {
        Map<Object, Boolean> seen = new IdentityHashMap<>();
        long elements = size(new LittleMix(), seen);
        System.out.println(seen.size() + " objects and arrays, " + elements + " fields and elements");
        Kit.due("few objects", seen.size() <= 40, true);
        Kit.due("few fields and elements", elements <= 4000, true);
    }

    private static long size(Object object, Map<Object, Boolean> seen) throws IllegalAccessException {
        if (object == null || seen.put(object, true) != null) {
            return 0;
        }
        if (object.getClass().isArray()) {
            return Array.getLength(object);
        }
        long sum = 0;
        for (Field field : Arrays.asList(object.getClass().getDeclaredFields())) {
            if (!Modifier.isStatic(field.getModifiers())) {
                field.setAccessible(true);
                sum += 1 + (field.getType().isPrimitive() ? 0 : size(field.get(object), seen));
            }
        }
        return sum;
    }
}
