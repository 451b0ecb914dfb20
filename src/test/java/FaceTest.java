import java.lang.reflect.Constructor;
import java.lang.reflect.Field;
import java.lang.reflect.Method;
import java.lang.reflect.Modifier;
import java.util.Arrays;
import java.util.Set;
import java.util.TreeSet;

/** The class's face and its constants: no member that can be seen but those of the document. */
public final class FaceTest {
    private static final String[] METHODS = {
        "int type(long)", "int end()", "int reason()", "boolean replayed()", "int receiptLength()",
        "int receipt(int)", "int patient(int,int)", "int bedOf(int)", "int inBeds()",
        "boolean known(int)", "int name(int,int,int)", "int result(int,char,char)",
        "int results(int)", "int segments()", "int text(int,int,int,int,int)",
        "int write(char,char,char,char,char)", "int written(int)"};
    private static final String[] CONSTANTS = {"NONE", "ACCEPTED", "ERROR", "REJECTED"};

    public static void main(String[] args) {
        Check check = new Check();
        Class<?> face = BedMessages.class;
        check.due("modifiers of the class", face.getModifiers(), Modifier.PUBLIC | Modifier.FINAL);
        check.due("methods", methodsSeen(face).toString(),
                new TreeSet<>(Arrays.asList(METHODS)).toString());
        check.due("fields", fieldsSeen(face).toString(),
                new TreeSet<>(Arrays.asList(CONSTANTS)).toString());
        Constructor<?>[] constructors = face.getDeclaredConstructors();
        check.due("constructors", constructors.length, 1);
        check.due("constructor's parameters", constructors[0].getParameterCount(), 0);
        check.due("constructor is public", Modifier.isPublic(constructors[0].getModifiers()), true);
        check.due("NONE", BedMessages.NONE, -1);
        check.due("ACCEPTED", BedMessages.ACCEPTED, 0);
        check.due("ERROR", BedMessages.ERROR, 1);
        check.due("REJECTED", BedMessages.REJECTED, 2);
        check.finish();
    }

    private static Set<String> methodsSeen(Class<?> face) {
        Set<String> seen = new TreeSet<>();
        for (Method method : face.getDeclaredMethods()) {
            if (!Modifier.isPrivate(method.getModifiers()) && !method.isSynthetic()) {
                StringBuilder line = new StringBuilder();
                line.append(method.getReturnType()).append(' ').append(method.getName());
                String separator = "(";
                for (Class<?> parameter : method.getParameterTypes()) {
                    line.append(separator).append(parameter);
                    separator = ",";
                }
                line.append(method.getParameterCount() == 0 ? "()" : ")");
                seen.add(line.toString());
            }
        }
        return seen;
    }

    private static Set<String> fieldsSeen(Class<?> face) {
        Set<String> seen = new TreeSet<>();
        for (Field field : face.getDeclaredFields()) {
            if (!Modifier.isPrivate(field.getModifiers()) && !field.isSynthetic()) {
                seen.add(field.getName());
            }
        }
        return seen;
    }
}
