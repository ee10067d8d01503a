import java.lang.reflect.Constructor;
import java.lang.reflect.Field;
import java.lang.reflect.Method;
import java.lang.reflect.Modifier;
import java.util.Arrays;
import java.util.Set;
import java.util.TreeSet;

/** The public face is the document's, and nothing of the class is seen beside it. */
public final class FaceTest {
    private static final String INDEX = " IndexOutOfBoundsException";
    private static final String ARGUMENT = " IllegalArgumentException";
    private static final String STATE = " IllegalStateException";

    private static final String[] FACE = {
        "int feed(int,int,int,int,int)" + STATE, "int trim(int)" + ARGUMENT, "int teach()", "int errorAt()",
        "int events()", "int tellers()", "int claims()", "int evenings()", "int ordersCarriedOut()",
        "int tellerOf(int)" + INDEX, "int kindOf(int)" + INDEX, "int eventOf(int)" + INDEX,
        "int secondEventOf(int)" + INDEX + STATE, "int firstHourOf(int)" + INDEX + STATE,
        "int lastHourOf(int)" + INDEX + STATE, "boolean areContrary(int,int)" + INDEX,
        "int claimsOf(int)" + INDEX, "boolean isDoubted(int)" + INDEX, "boolean doContradict(int,int)" + INDEX,
        "int contraryPairs(int,int)" + INDEX, "int contradictions()", "int liars()", "int smallestSets()",
        "boolean isLiar(int)" + INDEX, "boolean isAgreed(int)" + INDEX, "int windowFrom(int)" + INDEX + STATE,
        "int windowTo(int)" + INDEX + STATE, "boolean hasOrder()", "int eventAt(int)" + INDEX + STATE,
        "int claimHours(int,int,int,int)" + INDEX + ARGUMENT + STATE,
        "int claimBefore(int,int,int)" + INDEX + ARGUMENT + STATE,
        "int claimTogether(int,int,int)" + INDEX + ARGUMENT + STATE,
        "int takeBack(int)" + INDEX, "boolean turnDoubt(int)" + INDEX, "int passEvenings(int)" + ARGUMENT,
        "int liarsAfter(int)" + ARGUMENT, "int eveningsUntilOneStory()", "int bestToDoubt()",
        "double meanClaims()", "long digest()",
    };

    public static void main(String[] args) {
        Class<?> face = StoryTapestry.class;
        Check.same("modifiers", face.getModifiers(), Modifier.PUBLIC | Modifier.FINAL);
        Set<String> seen = new TreeSet<>();
        Set<String> names = new TreeSet<>();
        for (Method method : face.getDeclaredMethods()) {
            if (!Modifier.isPrivate(method.getModifiers())) {
                seen.add(signature(method));
                names.add(method.getName());
                Check.same(method.getName() + " is public alone", method.getModifiers(), Modifier.PUBLIC);
            }
        }
        Check.same("methods", seen, new TreeSet<>(Arrays.asList(FACE)));
        for (Method method : face.getDeclaredMethods()) {
            if (Modifier.isPrivate(method.getModifiers())) {
                Check.no(method.getName() + " bears a public name", names.contains(method.getName()));
            }
        }
        for (Field field : face.getDeclaredFields()) {
            Check.yes(field.getName() + " is private", Modifier.isPrivate(field.getModifiers()));
            Check.yes(field.getName() + " is no static state",
                    !Modifier.isStatic(field.getModifiers()) || Modifier.isFinal(field.getModifiers()));
        }
        Constructor<?>[] constructors = face.getDeclaredConstructors();
        Check.same("constructors", constructors.length, 1);
        Check.same("the constructor", constructors[0].toString(), "public StoryTapestry()");
        for (Class<?> inside : face.getDeclaredClasses()) {
            Check.yes(inside.getName() + " is static", Modifier.isStatic(inside.getModifiers()));
            Check.no(inside.getName() + " is public", Modifier.isPublic(inside.getModifiers()));
        }
        Check.end();
    }

    private static String signature(Method method) {
        StringBuilder text = new StringBuilder();
        text.append(method.getReturnType().getName()).append(' ').append(method.getName()).append('(');
        for (int i = 0; i < method.getParameterCount(); i++) {
            text.append(i == 0 ? "" : ",").append(method.getParameterTypes()[i].getName());
        }
        text.append(')');
        for (Class<?> thrown : method.getExceptionTypes()) {
            text.append(' ').append(thrown.getSimpleName());
        }
        return text.toString();
    }
}
