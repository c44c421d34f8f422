import java.lang.reflect.Constructor;
import java.lang.reflect.Field;
import java.lang.reflect.Method;
import java.lang.reflect.Modifier;
import java.util.ArrayList;
import java.util.Arrays;
import java.util.List;
import java.util.TreeSet;

/** The public face: exactly the members of the document, and nothing else that is not private. */
public final class FaceTest {
    private static final String[] FACE = {
        "int begin(int, int, int) IllegalArgumentException",
        "int setHeight(int, int) IndexOutOfBoundsException IllegalArgumentException",
        "int setTuft(int, int) IndexOutOfBoundsException IllegalArgumentException",
        "int setFence(int, int) IndexOutOfBoundsException IllegalArgumentException",
        "int set(int, int) IllegalArgumentException",
        "int setWind(int, int) IllegalArgumentException",
        "int run(int) IllegalArgumentException",
        "int season()",
        "int value(int) IllegalArgumentException",
        "int cell(int, int) IndexOutOfBoundsException IllegalArgumentException",
        "int count(int) IllegalArgumentException",
        "int latest(int) IllegalArgumentException",
        "int slabs()",
        "int relief(int) IllegalArgumentException",
        "double shadowHeight()",
        "int dunes(int) IllegalArgumentException",
        "int greatestDune(int) IllegalArgumentException",
        "int duneOf(int, int) IndexOutOfBoundsException IllegalArgumentException",
        "int dunesAfter(int, int) IllegalArgumentException",
        "int bestFence(int, int) IndexOutOfBoundsException IllegalArgumentException",
        "int liveliestWind(int) IllegalArgumentException",
        "int append(int) IllegalArgumentException IllegalStateException",
        "int clearText()",
        "int parse()",
        "int undo() IllegalStateException",
        "long digest()",
    };

    public static void main(String[] args) throws Exception {
        methods();
        fieldsAndConstructors();
        namesInside();
        Check.end("FaceTest");
    }

    private static void methods() {
        List<String> found = new ArrayList<>();
        for (Method method : SlabDunes.class.getDeclaredMethods()) {
            if (!Modifier.isPrivate(method.getModifiers())) {
                Check.that(method + " is public and not static",
                    (method.getModifiers() & (Modifier.PUBLIC | Modifier.STATIC)) == Modifier.PUBLIC);
                found.add(told(method));
            }
        }
        Check.equal("the number of methods that are not private", found.size(), FACE.length);
        Check.that("the methods are those of the document: " + found,
            new TreeSet<>(found).equals(new TreeSet<>(Arrays.asList(FACE))));
    }

    private static String told(Method method) {
        StringBuilder text = new StringBuilder(method.getReturnType() + " " + method.getName() + "(");
        for (Class<?> type : method.getParameterTypes()) {
            text.append(text.charAt(text.length() - 1) == '(' ? "" : ", ").append(type);
        }
        text.append(")");
        for (Class<?> type : method.getExceptionTypes()) {
            text.append(" ").append(type.getSimpleName());
        }
        return text.toString();
    }

    private static void fieldsAndConstructors() throws Exception {
        Check.that("the class is public and final",
            (SlabDunes.class.getModifiers() & (Modifier.PUBLIC | Modifier.FINAL)) == (Modifier.PUBLIC | Modifier.FINAL));
        Constructor<?>[] constructors = SlabDunes.class.getDeclaredConstructors();
        Check.equal("constructors", constructors.length, 1);
        Check.equal("parameters of the constructor", constructors[0].getParameterCount(), 0);
        Check.that("the constructor is public", Modifier.isPublic(constructors[0].getModifiers()));
        for (Field field : SlabDunes.class.getDeclaredFields()) {
            boolean constant = field.getName().equals("NONE");
            Check.that(field + " is private, or NONE", constant || Modifier.isPrivate(field.getModifiers()));
        }
        int modifiers = SlabDunes.class.getDeclaredField("NONE").getModifiers();
        Check.that("NONE is a public constant", modifiers == (Modifier.PUBLIC | Modifier.STATIC | Modifier.FINAL));
        Check.equal("NONE", SlabDunes.NONE, -1);
    }

    private static void namesInside() {
        TreeSet<String> face = new TreeSet<>();
        for (Method method : SlabDunes.class.getDeclaredMethods()) {
            if (Modifier.isPublic(method.getModifiers())) {
                face.add(method.getName());
            }
        }
        List<Class<?>> all = new ArrayList<>(Arrays.asList(SlabDunes.class.getDeclaredClasses()));
        for (Class<?> inner : all) {
            Check.that(inner + " is static", Modifier.isStatic(inner.getModifiers()));
            for (Method method : inner.getDeclaredMethods()) {
                Check.that(method + " bears no name of the face", !face.contains(method.getName()));
            }
            Check.that(inner + " has few fields", inner.getDeclaredFields().length <= 20);
        }
    }
}
