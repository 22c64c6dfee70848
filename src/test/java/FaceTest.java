import java.lang.reflect.Constructor;
import java.lang.reflect.Field;
import java.lang.reflect.Method;
import java.lang.reflect.Modifier;
import java.util.Arrays;
import java.util.Set;
import java.util.TreeSet;

/** The public face: every member that the document lists, with its exceptions, and no other. */
public final class FaceTest {
    private static final String[] FACE = {
        "bar(int,int,int):int IndexOutOfBoundsException IllegalArgumentException IllegalStateException",
        "lamp(int,int):int IllegalArgumentException IllegalStateException",
        "hang(int,int,int):int IndexOutOfBoundsException IllegalStateException",
        "down(int):boolean IndexOutOfBoundsException",
        "onBar(int,int):int IndexOutOfBoundsException",
        "where(int):int IndexOutOfBoundsException",
        "tour():int",
        "patch(int,int):int IndexOutOfBoundsException IllegalArgumentException",
        "gap(int):int IllegalArgumentException",
        "plug(int,int):int IndexOutOfBoundsException",
        "load(int):int IndexOutOfBoundsException",
        "cue(int,int,int):int IllegalArgumentException IllegalStateException",
        "name(int,int,int):int IndexOutOfBoundsException IllegalArgumentException",
        "go():int IllegalStateException",
        "tick(int):int IllegalArgumentException",
        "rewind():int",
        "level(int):int IndexOutOfBoundsException",
        "wanted(int):int IndexOutOfBoundsException",
        "wantedByCues(int):int IndexOutOfBoundsException",
        "bulb(int):boolean IndexOutOfBoundsException",
        "standIn(int,int):int IndexOutOfBoundsException IllegalArgumentException IllegalStateException",
        "colour(int,int):int IndexOutOfBoundsException IllegalArgumentException",
        "burnt():int",
    };

    public static void main(String[] args) throws IllegalAccessException {
        Class<?> face = PlotPatch.class;
        Check.due(Modifier.PUBLIC | Modifier.FINAL, "modifiers", face::getModifiers);
        Set<String> methods = new TreeSet<>();
        Set<String> hidden = new TreeSet<>();
        for (Method method : face.getDeclaredMethods()) {
            (Modifier.isPrivate(method.getModifiers()) ? hidden : methods).add(told(method));
        }
        Check.due(new TreeSet<>(Arrays.asList(FACE)), "the methods", () -> methods);
        for (String name : FACE) {
            String start = name.substring(0, name.indexOf('(') + 1);
            Check.due(false, "a private method named " + start + ")",
                    () -> hidden.stream().anyMatch(other -> other.startsWith(start)));
        }
        Set<String> fields = new TreeSet<>();
        for (Field field : face.getDeclaredFields()) {
            int modifiers = field.getModifiers();
            if (!Modifier.isPrivate(modifiers)) {
                fields.add(Modifier.toString(modifiers) + " " + field.getName() + "=" + field.getInt(null));
            }
        }
        Set<String> constants = new TreeSet<>();
        for (String constant : new String[] {"NONE=-1", "PAR=0", "PROFILE=1", "WASH=2", "MOVER=3",
            "LINEAR=0", "SLOW=1", "SNAP=2"}) {
            constants.add("public static final " + constant);
        }
        Check.due(constants, "the constants", () -> fields);
        Constructor<?>[] constructors = face.getDeclaredConstructors();
        Check.due(1, "how many constructors", () -> constructors.length);
        Check.due("public PlotPatch()", "the constructor", constructors[0]::toString);
        Check.finish("FaceTest");
    }

    private static String told(Method method) {
        StringBuilder text = new StringBuilder(method.getName()).append('(');
        for (Class<?> type : method.getParameterTypes()) {
            text.append(text.charAt(text.length() - 1) == '(' ? "" : ",").append(type.getSimpleName());
        }
        text.append("):").append(method.getReturnType().getSimpleName());
        for (Class<?> thrown : method.getExceptionTypes()) {
            text.append(' ').append(thrown.getSimpleName());
        }
        return text.toString();
    }
}
