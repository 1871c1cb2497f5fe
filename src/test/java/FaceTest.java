import java.lang.reflect.Constructor;
import java.lang.reflect.Field;
import java.lang.reflect.Member;
import java.lang.reflect.Method;
import java.lang.reflect.Modifier;
import java.util.ArrayList;
import java.util.Arrays;
import java.util.List;
import java.util.TreeSet;

/** The public face is the document's, and nothing else of the class can be seen from outside. */
public final class FaceTest {
    public static void main(String[] args) {
        List<String> seen = new ArrayList<>();
        for (Constructor<?> made : StripeFiles.class.getDeclaredConstructors()) {
            addIfSeen(seen, made, "new" + Arrays.toString(made.getParameterTypes()));
        }
        for (Method method : StripeFiles.class.getDeclaredMethods()) {
            addIfSeen(seen, method, method.getReturnType() + " " + method.getName()
                + Arrays.toString(method.getParameterTypes()));
        }
        for (Field field : StripeFiles.class.getDeclaredFields()) {
            addIfSeen(seen, field, field.getType() + " " + field.getName());
        }
        Due.same("face", new TreeSet<>(seen).toString(), new TreeSet<>(List.of(
            "public new[]",
            "public int feed[int, int, int, int, int]",
            "public int end[int]",
            "public int name[int]",
            "public int run[int, int, int]",
            "public int told[int]",
            "public int file[int, int]",
            "public int piece[int, int, int]",
            "public int count[int]",
            "public static final int REFUSED",
            "public static final int NONE",
            "public static final int EXISTS",
            "public static final int FULL")).toString());
        Due.same("class", Modifier.toString(StripeFiles.class.getModifiers()), "public final");
        Due.is("REFUSED", StripeFiles.REFUSED, -1);
        Due.is("NONE", StripeFiles.NONE, -2);
        Due.is("EXISTS", StripeFiles.EXISTS, -3);
        Due.is("FULL", StripeFiles.FULL, -4);
        Due.finish();
    }

    private static void addIfSeen(List<String> seen, Member member, String text) {
        if (!Modifier.isPrivate(member.getModifiers()) && !member.isSynthetic()) {
            seen.add(Modifier.toString(member.getModifiers()) + " " + text);
        }
    }
}
