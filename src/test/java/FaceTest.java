import java.lang.reflect.Constructor;
import java.lang.reflect.Field;
import java.lang.reflect.Method;
import java.lang.reflect.Modifier;
import java.util.ArrayList;
import java.util.Arrays;
import java.util.Collections;
import java.util.List;

/** The public face is the document's, and there is nothing beside it that others could reach. */
public final class FaceTest {
    private static final String INDEX = "IndexOutOfBoundsException";
    private static final String ARGUMENT = "IllegalArgumentException";
    private static final String STATE = "IllegalStateException";

    private static final String[] FACE = {
        "int set(int,int,int) " + INDEX + " " + ARGUMENT,
        "int join(int) " + ARGUMENT + " " + STATE,
        "int toss(int,int) " + INDEX + " " + ARGUMENT + " " + STATE,
        "int rest(int) " + INDEX + " " + STATE,
        "int go(int) " + INDEX + " " + STATE,
        "int pay(int,int) " + INDEX + " " + ARGUMENT + " " + STATE,
        "int buy(int) " + ARGUMENT + " " + STATE,
        "boolean strike(int) " + INDEX,
        "int shift(int,int) " + INDEX,
        "int tear() " + STATE,
        "int entry(int,int) " + INDEX,
        "int behind(int,int) " + ARGUMENT + " " + INDEX,
        "int trust(int,int) " + INDEX + " " + ARGUMENT,
        "int count(int) " + INDEX,
        "int worth(int) " + INDEX,
        "int best()",
        "int would(int,int) " + INDEX + " " + ARGUMENT,
        "double mean()",
        "long digest()",
    };

    public static void main(String[] args) {
        Check check = new Check();
        Class<?> face = KnifeLedger.class;
        check.is("modifiers of the class", Modifier.PUBLIC | Modifier.FINAL, face.getModifiers());
        List<String> due = new ArrayList<>(Arrays.asList(FACE));
        List<String> got = new ArrayList<>();
        for (Method method : face.getDeclaredMethods()) {
            if (!Modifier.isPrivate(method.getModifiers())) {
                check.is("modifiers of " + method, Modifier.PUBLIC, method.getModifiers());
                got.add(told(method));
            }
        }
        Collections.sort(due);
        Collections.sort(got);
        if (!due.equals(got)) {
            check.tell("the face is " + got + ", due is " + due);
        }
        for (Field field : face.getDeclaredFields()) {
            check.isTrue("private is " + field, Modifier.isPrivate(field.getModifiers()));
        }
        Constructor<?>[] constructors = face.getDeclaredConstructors();
        check.is("constructors", 1, constructors.length);
        check.is("modifiers of the constructor", Modifier.PUBLIC, constructors[0].getModifiers());
        check.is("its parameters", 0, constructors[0].getParameterCount());
        check.end();
    }

    private static String told(Method method) {
        StringBuilder text = new StringBuilder();
        text.append(method.getReturnType().getSimpleName()).append(' ').append(method.getName());
        String separator = "(";
        for (Class<?> type : method.getParameterTypes()) {
            text.append(separator).append(type.getSimpleName());
            separator = ",";
        }
        text.append(separator.equals("(") ? "()" : ")");
        for (Class<?> type : method.getExceptionTypes()) {
            text.append(' ').append(type.getSimpleName());
        }
        return text.toString();
    }
}
