import java.lang.reflect.Array;
import java.lang.reflect.Constructor;
import java.lang.reflect.Field;
import java.lang.reflect.Method;
import java.lang.reflect.Modifier;
import java.util.Collections;
import java.util.IdentityHashMap;
import java.util.Set;
import java.util.TreeSet;

/** The public face of the document, with nothing visible beside it, and the room that an object takes. */
public final class FaceTest {
    private static final Check CHECK = new Check("FaceTest");

    private static final Set<String> METHODS = Set.of(
            "int hull(int,int)", "int offset(int,int,int)", "int hold(int,int,boolean)", "int setting(int,int)",
            "int ofPoint(int,int,int)", "int bend(int,int,int)", "int jump(int,int,int)", "int roughest(int)",
            "int rough(int,int)", "int least(int,int,int)", "int fair(int,int)", "int rounds(int)", "int back()",
            "long area(int,int,int)", "long centre(int,int,int)", "long volume(int,int)", "long height(int,int,int)",
            "int breaks(int)", "int worst()", "int many(int)");

    public static void main(String[] args) throws Exception {
        constants();
        members();
        namesOfOwn();
        room();
        CHECK.end();
    }

    private static void constants() throws Exception {
        CHECK.due("UNKNOWN", HullOffsets.UNKNOWN, -1);
        CHECK.due("OUTSIDE", HullOffsets.OUTSIDE, -2);
        CHECK.due("STATE", HullOffsets.STATE, -3);
        CHECK.due("NONE", HullOffsets.NONE, -9);
        CHECK.due("LOST", HullOffsets.LOST, Long.MIN_VALUE);
        for (String name : new String[] {"UNKNOWN", "OUTSIDE", "STATE", "NONE", "LOST"}) {
            Field field = HullOffsets.class.getField(name);
            CHECK.isTrue(name + " is of its type", field.getType() == (name.equals("LOST") ? long.class : int.class));
            CHECK.isTrue(name + " is a constant", Modifier.isStatic(field.getModifiers())
                    && Modifier.isFinal(field.getModifiers()));
        }
        CHECK.due("public fields", HullOffsets.class.getFields().length, 5);
    }

    private static String face(Method method) {
        StringBuilder face = new StringBuilder(method.getReturnType() + " " + method.getName() + "(");
        for (Class<?> type : method.getParameterTypes()) {
            face.append(face.charAt(face.length() - 1) == '(' ? "" : ",").append(type);
        }
        return face.append(")").toString();
    }

    private static void members() {
        int isClass = HullOffsets.class.getModifiers();
        CHECK.isTrue("the class is public and final", Modifier.isPublic(isClass) && Modifier.isFinal(isClass));
        CHECK.isTrue("it extends nothing", HullOffsets.class.getSuperclass() == Object.class);
        CHECK.due("interfaces of the class", HullOffsets.class.getInterfaces().length, 0);
        CHECK.due("public classes inside it", HullOffsets.class.getClasses().length, 0);
        Set<String> found = new TreeSet<>();
        for (Method method : HullOffsets.class.getDeclaredMethods()) {
            int is = method.getModifiers();
            if (!Modifier.isPrivate(is)) {
                found.add(face(method));
                CHECK.isTrue(method + " is public and of an object", Modifier.isPublic(is) && !Modifier.isStatic(is));
            }
        }
        CHECK.isTrue("the methods are those of the document: " + found, found.equals(METHODS));
        for (Field field : HullOffsets.class.getDeclaredFields()) {
            int is = field.getModifiers();
            CHECK.isTrue(field + " is public or private", Modifier.isPublic(is) || Modifier.isPrivate(is));
        }
        Constructor<?>[] constructors = HullOffsets.class.getDeclaredConstructors();
        CHECK.due("constructors", constructors.length, 1);
        CHECK.due("their parameters", constructors[0].getParameterCount(), 0);
        CHECK.isTrue("the constructor is public", Modifier.isPublic(constructors[0].getModifiers()));
    }

    /** Rule 1 of LANGUAGE.md: no private method, of the classes inside either, bears the name of a public one. */
    private static void namesOfOwn() {
        namesOfOwn(HullOffsets.class);
        for (Class<?> own : HullOffsets.class.getDeclaredClasses()) {
            namesOfOwn(own);
        }
    }

    private static void namesOfOwn(Class<?> own) {
        for (Method method : own.getDeclaredMethods()) {
            boolean isFace = own == HullOffsets.class && Modifier.isPublic(method.getModifiers());
            CHECK.isTrue(method + " has a name of its own", isFace || !isNameOfFace(method.getName()));
        }
    }

    private static boolean isNameOfFace(String name) {
        return METHODS.stream().anyMatch(face -> face.contains(" " + name + "("));
    }

    // ---- the room that all objects and calls of a run share

    private static void room() throws Exception {
        HullOffsets x = new HullOffsets();
        Set<Object> seen = Collections.newSetFromMap(new IdentityHashMap<>());
        int places = places(x, seen);
        // A run may make an object with each of its 512 calls, and more than one such run has to fit.
        CHECK.isTrue("an object is made of few others: " + seen.size(), seen.size() * 512 < 600_000 / 10);
        CHECK.isTrue("an object is small: " + places, places * 512 < 7_300_000 / 2);
        useAll(x);
        Set<Object> seenAfter = Collections.newSetFromMap(new IdentityHashMap<>());
        CHECK.due("what an object is made of behind its calls", places(x, seenAfter), places);
        CHECK.isTrue("nothing is made anew by calls", seenAfter.equals(seen));
    }

    /** Fields and elements of an object and of all that it holds. */
    private static int places(Object object, Set<Object> seen) throws Exception {
        if (object == null || !seen.add(object)) {
            return 0;
        }
        if (object.getClass().isArray()) {
            int places = Array.getLength(object);
            for (int i = 0; object instanceof Object[] && i < Array.getLength(object); i++) {
                places += places(Array.get(object, i), seen);
            }
            return places;
        }
        int places = 0;
        for (Field field : object.getClass().getDeclaredFields()) {
            if (!Modifier.isStatic(field.getModifiers())) {
                field.setAccessible(true);
                places += 1 + (field.getType().isPrimitive() ? 0 : places(field.get(object), seen));
            }
        }
        return places;
    }

    /** The calls, in a hull that is rough and as large as can be. */
    private static void useAll(HullOffsets x) throws Exception {
        x.hull(9, 7);
        x.setting(1, 3);
        for (int point = 0; point < 63; point++) {
            x.offset(point / 7, point % 7, 100 + point * 37 % 11);
        }
        for (Method method : HullOffsets.class.getDeclaredMethods()) {
            if (Modifier.isPublic(method.getModifiers()) && !method.getName().equals("hull")) {
                Object[] arguments = new Object[method.getParameterCount()];
                for (int i = 0; i < arguments.length; i++) {
                    arguments[i] = method.getParameterTypes()[i] == boolean.class ? Boolean.TRUE : Integer.valueOf(1);
                }
                method.invoke(x, arguments);
            }
        }
        x.rounds(20);
    }
}
