import java.lang.reflect.Constructor;
import java.lang.reflect.Field;
import java.lang.reflect.Member;
import java.lang.reflect.Method;
import java.lang.reflect.Modifier;
import java.util.Set;
import java.util.TreeSet;

/** The public face of the document, and rule 1 of LANGUAGE.md: nothing else is to be seen. */
final class FaceTest {
    private static final String BOUNDS = " IndexOutOfBoundsException";
    private static final String ARGUMENT = " IllegalArgumentException";
    private static final String STATE = " IllegalStateException";

    private static final Set<String> FACE = Set.of(
            "int cell(int,int,int,int,int)" + BOUNDS + ARGUMENT,
            "boolean fault(int,boolean,boolean)" + BOUNDS,
            "int well(int,int)" + BOUNDS + ARGUMENT + STATE,
            "int choke(int,int)" + BOUNDS + ARGUMENT + STATE,
            "int rank(int,int)" + BOUNDS + ARGUMENT,
            "boolean test(int)" + BOUNDS + STATE,
            "int plug(int)" + BOUNDS + STATE,
            "int capacity(int,int)" + BOUNDS + ARGUMENT,
            "int permit(int)" + ARGUMENT,
            "int tank(int)" + ARGUMENT + STATE,
            "int shares(int,int)" + ARGUMENT,
            "int price(int)" + ARGUMENT,
            "int pass(int)" + ARGUMENT,
            "int lift(int,int)" + BOUNDS + ARGUMENT,
            "int book()",
            "int ofCell(int,int)" + BOUNDS + ARGUMENT,
            "int ofWell(int,int)" + BOUNDS + ARGUMENT,
            "int ofPartner(int,int)" + BOUNDS + ARGUMENT,
            "int booked(int)" + ARGUMENT,
            "int many(int)" + ARGUMENT,
            "double meanPressure()",
            "int wouldGive(int)" + ARGUMENT,
            "int bestChoke(int,int)" + BOUNDS + ARGUMENT + STATE,
            "int keptBack(int,boolean,int)" + BOUNDS + ARGUMENT,
            "int mayLift(int)" + BOUNDS,
            "long digest()");

    public static void main(String[] args) {
        Class<?> face = PoreField.class;
        Expect.due("the class is public and final", Modifier.PUBLIC | Modifier.FINAL, () -> face.getModifiers());
        Set<String> seen = new TreeSet<>();
        for (Method method : face.getDeclaredMethods()) {
            if (isSeen(method)) {
                seen.add(told(method));
            }
        }
        Expect.due("the methods that are seen", new TreeSet<>(FACE), () -> seen);
        for (Field field : face.getDeclaredFields()) {
            Expect.due("the field " + field.getName() + " is seen", false, () -> isSeen(field));
        }
        Expect.due("how many constructors", 1, () -> face.getDeclaredConstructors().length);
        for (Constructor<?> made : face.getDeclaredConstructors()) {
            Expect.due("the constructor", "public PoreField()", () -> made.toString());
        }
        Expect.due("private methods with the name of a public one", 0L, () -> namesakes(face));
        Expect.finish();
    }

    private static boolean isSeen(Member member) {
        return !Modifier.isPrivate(member.getModifiers()) && !member.isSynthetic();
    }

    private static long namesakes(Class<?> face) {
        long count = 0;
        for (Method method : face.getDeclaredMethods()) {
            if (!isSeen(method) && FACE.stream().anyMatch(told -> told.contains(" " + method.getName() + "("))) {
                count++;
            }
        }
        return count;
    }

    private static String told(Method method) {
        StringBuilder told = new StringBuilder(method.getReturnType().getName()).append(' ').append(method.getName());
        told.append('(');
        for (Class<?> type : method.getParameterTypes()) {
            told.append(told.charAt(told.length() - 1) == '(' ? "" : ",").append(type.getName());
        }
        told.append(')');
        for (Class<?> thrown : method.getExceptionTypes()) {
            told.append(' ').append(thrown.getSimpleName());
        }
        return told.toString();
    }
}
