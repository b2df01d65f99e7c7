import java.lang.reflect.Constructor;
import java.lang.reflect.Field;
import java.lang.reflect.Method;
import java.lang.reflect.Modifier;
import java.util.Arrays;
import java.util.TreeSet;

/** The class shows the members of the document's face and no others. */
public final class FaceTest {
    private static final String[] FACE = {
        "int ABSENT", "int FULL", "int MANY", "int NONE", "int PRESENT",
        "WordEvidence[int]",
        "boolean key[char]", "int clear[]", "int words[]", "int letter[int, int]", "int train[int, int]",
        "int untrain[int]", "int sync[]", "int fail[int]", "int pending[]", "int documents[int]", "int total[int]",
        "int count[int, int]", "int vocabulary[]", "int label[int]", "int classify[]", "int order[int]",
        "int compare[int, int]",
    };

    public static void main(String[] args) {
        Check check = new Check();
        TreeSet<String> due = new TreeSet<>(Arrays.asList(FACE));
        TreeSet<String> seen = new TreeSet<>();
        for (Field field : WordEvidence.class.getDeclaredFields()) {
            if (!Modifier.isPrivate(field.getModifiers())) {
                seen.add(field.getType() + " " + field.getName());
            }
            if (Modifier.isStatic(field.getModifiers())) {
                check.due(field.getName() + " is final", Modifier.isFinal(field.getModifiers()), true);
            }
        }
        for (Constructor<?> made : WordEvidence.class.getDeclaredConstructors()) {
            seen.add(made.getName() + Arrays.toString(made.getParameterTypes()));
        }
        for (Method method : WordEvidence.class.getDeclaredMethods()) {
            if (!Modifier.isPrivate(method.getModifiers())) {
                seen.add(method.getReturnType() + " " + method.getName() + Arrays.toString(method.getParameterTypes()));
            }
        }
        if (!seen.equals(due)) {
            System.out.println("the face is " + seen + ", due is " + due);
        }
        check.due("the face is the document's", seen.equals(due), true);
        check.due("the class is final", Modifier.isFinal(WordEvidence.class.getModifiers()), true);
        check.due("NONE", WordEvidence.NONE, -1);
        check.due("PRESENT", WordEvidence.PRESENT, -2);
        check.due("ABSENT", WordEvidence.ABSENT, -3);
        check.due("MANY", WordEvidence.MANY, -4);
        check.due("FULL", WordEvidence.FULL, -5);
        check.end();
    }
}
