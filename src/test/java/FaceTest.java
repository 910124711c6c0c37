import java.lang.reflect.Constructor;
import java.lang.reflect.Field;
import java.lang.reflect.Method;
import java.lang.reflect.Modifier;
import java.nio.file.Files;
import java.nio.file.Path;
import java.util.Set;
import java.util.TreeSet;

/** The public face of the document, and those rules of LANGUAGE.md that can be told from the class and its text. */
public final class FaceTest {
    private static final Check CHECK = new Check("FaceTest");

    private static final Set<String> METHODS = Set.of(
            "int hull(int,int)", "int offset(int,int,int)", "int hold(int,int,boolean)", "int setting(int,int)",
            "int ofPoint(int,int,int)", "int bend(int,int,int)", "int jump(int,int,int)", "int roughest(int)",
            "int rough(int,int)", "int least(int,int,int)", "int fair(int,int)", "int rounds(int)", "int back()",
            "long area(int,int,int)", "long centre(int,int,int)", "long volume(int,int)", "long height(int,int,int)",
            "int breaks(int)", "int worst()", "int many(int)");

    public static void main(String[] args) throws Exception {
        constants();
        members();
        namesOfOwn();
        text();
        CHECK.end();
    }

    private static void constants() throws Exception {
        CHECK.due("UNKNOWN", HullOffsets.UNKNOWN, -1);
        CHECK.due("OUTSIDE", HullOffsets.OUTSIDE, -2);
        CHECK.due("STATE", HullOffsets.STATE, -3);
        CHECK.due("NONE", HullOffsets.NONE, -9);
        CHECK.due("LOST", HullOffsets.LOST, Long.MIN_VALUE);
        for (String name : new String[] {"UNKNOWN", "OUTSIDE", "STATE", "NONE", "LOST"}) {
            Field field = HullOffsets.class.getField(name);
            CHECK.isTrue(name + " is of its type", field.getType() == (name.equals("LOST") ? long.class : int.class));
        }
        CHECK.due("public fields", HullOffsets.class.getFields().length, 5);
    }

    private static String face(Method method) {
        StringBuilder face = new StringBuilder(method.getReturnType() + " " + method.getName() + "(");
        for (Class<?> type : method.getParameterTypes()) {
            face.append(face.charAt(face.length() - 1) == '(' ? "" : ",").append(type);
        }
        return face.append(")").toString();
    }

    private static void members() {
        CHECK.isTrue("the class is final", Modifier.isFinal(HullOffsets.class.getModifiers()));
        Set<String> found = new TreeSet<>();
        for (Method method : HullOffsets.class.getDeclaredMethods()) {
            if (!Modifier.isPrivate(method.getModifiers())) {
                found.add(face(method));
            }
        }
        CHECK.isTrue("the methods are those of the document: " + found, found.equals(METHODS));
        for (Field field : HullOffsets.class.getDeclaredFields()) {
            int is = field.getModifiers();
            CHECK.isTrue(field + " is public or private", Modifier.isPublic(is) || Modifier.isPrivate(is));
            CHECK.isTrue(field + " is final, if static", !Modifier.isStatic(is) || Modifier.isFinal(is));
        }
        Constructor<?>[] constructors = HullOffsets.class.getDeclaredConstructors();
        CHECK.due("constructors", constructors.length, 1);
        CHECK.due("their parameters", constructors[0].getParameterCount(), 0);
        CHECK.isTrue("the constructor is public", Modifier.isPublic(constructors[0].getModifiers()));
    }

    private static void namesOfOwn() {
        Class<?>[] inside = HullOffsets.class.getDeclaredClasses();
        CHECK.isTrue("there are at most twelve classes", inside.length < 12);
        limits(HullOffsets.class);
        for (Class<?> own : inside) {
            CHECK.isTrue(own + " is static", Modifier.isStatic(own.getModifiers()));
            limits(own);
        }
    }

    private static void limits(Class<?> own) {
        int fields = 0;
        for (Field field : own.getDeclaredFields()) {
            fields += Modifier.isStatic(field.getModifiers()) ? 0 : 1;
        }
        CHECK.isTrue(own + " has at most twenty fields", fields <= 20);
        for (Method method : own.getDeclaredMethods()) {
            CHECK.isTrue(method + " takes at most seven parameters", method.getParameterCount() <= 7);
            boolean isFace = Modifier.isPublic(method.getModifiers());
            CHECK.isTrue(method + " has a name of its own", isFace || !isNameOfFace(method.getName()));
        }
    }

    private static boolean isNameOfFace(String name) {
        return METHODS.stream().anyMatch(face -> face.contains(" " + name + "("));
    }

    private static void text() throws Exception {
        String code = Files.readString(Path.of("src/main/java/HullOffsets.java"))
                .replaceAll("(?s)/\\*.*?\\*/", " ").replaceAll("//[^\n]*", " ");
        String[] never = {"throw", "throws", "try", "catch", "finally", "synchronized", "assert", "import", "package",
            "var", "volatile", "transient", "native"};
        for (String word : never) {
            CHECK.isTrue("the word " + word + " is not in the class", !code.matches("(?s).*\\b" + word + "\\b.*"));
        }
        CHECK.isTrue("there is no lambda", !code.contains("->"));
        CHECK.isTrue("there is no method reference", !code.contains("::"));
        CHECK.isTrue("there is no static block", !code.matches("(?s).*\\bstatic\\s*\\{.*"));
        CHECK.isTrue("the text is plain", code.chars().allMatch(c -> c == '\n' || c >= 32 && c < 127));
        for (String line : code.split("\n")) {
            // All calls of a run share one room: what is made is made with the object and used again.
            boolean makes = line.matches(".*\\bnew\\b.*") || line.contains(".clone()");
            CHECK.isTrue("only fields are made: " + line.trim(), !makes || line.trim().startsWith("private final "));
        }
    }
}
