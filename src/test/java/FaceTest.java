import java.lang.reflect.Constructor;
import java.lang.reflect.Field;
import java.lang.reflect.Method;
import java.lang.reflect.Modifier;
import java.util.Set;
import java.util.TreeSet;

/** The class has the document's face and nothing besides it. */
final class FaceTest {
    private static final String RANGE = "IndexOutOfBoundsException";
    private static final String WRONG = "IllegalArgumentException";
    private static final String STATE = "IllegalStateException";
    private static final String ABSENT = "NoSuchElementException";
    private static final String NOT_DONE = "UnsupportedOperationException";
    private static final String REFUSED = "ArithmeticException";

    private static final String[] FACE = {
        "int variable()" + STATE,
        "int arrow(int,int)" + RANGE + WRONG + STATE,
        "int remove(int,int)" + RANGE + ABSENT,
        "int hide(int,int)" + RANGE + WRONG + STATE,
        "int ancestors(int)" + WRONG,
        "int descendants(int)" + WRONG,
        "int district(int,int)" + RANGE + WRONG,
        "boolean areSeparated(int,int,int)" + RANGE + WRONG,
        "int pathLength(int,int,int)" + RANGE + WRONG + ABSENT,
        "int pathAt(int,int,int,int)" + RANGE + WRONG + ABSENT,
        "boolean isIdentified(int,int)" + WRONG,
        "int barredBy(int,int)" + WRONG + ABSENT,
        "int effect(int,int,int,int)" + WRONG + NOT_DONE,
        "int trueEffect(int,int,int,int)" + WRONG,
        "int setBits(int,int)" + RANGE + WRONG,
        "int rows(int)" + RANGE,
        "int chance(int,int)" + WRONG,
        "int chanceIf(int,int,int,int)" + WRONG,
        "boolean areIndependent(int,int,int)" + RANGE + WRONG,
        "boolean adjusts(int,int,int)" + RANGE + WRONG,
        "int adjustments(int,int)" + RANGE + WRONG,
        "int adjustmentAt(int,int,int)" + RANGE + WRONG + ABSENT,
        "int adjusted(int,int,int)" + RANGE + WRONG + ABSENT,
        "boolean isFront(int,int,int)" + RANGE + WRONG,
        "boolean isInstrument(int,int,int)" + RANGE + WRONG,
        "int graphs()" + NOT_DONE,
        "char told(int,int)" + RANGE + WRONG + NOT_DONE,
        "boolean isSame(int,int)" + WRONG,
        "float identifiedShare()" + REFUSED,
        "double meanParents()" + REFUSED,
    };

    public static void main(String[] args) {
        Expect expect = new Expect("FaceTest");
        Set<String> want = new TreeSet<>(Set.of(FACE));
        Set<String> got = new TreeSet<>();
        Set<String> hiddenNames = new TreeSet<>();
        Set<String> publicNames = new TreeSet<>();
        for (Method each : EffectCourt.class.getDeclaredMethods()) {
            if (Modifier.isPrivate(each.getModifiers())) {
                hiddenNames.add(each.getName());
            } else {
                got.add(describe(each));
                publicNames.add(each.getName());
            }
        }
        expect.is("the methods", want, () -> got);
        hiddenNames.retainAll(publicNames);
        expect.is("private methods with public names", Set.of(), () -> hiddenNames);
        expect.is("constructors", 1, () -> EffectCourt.class.getDeclaredConstructors().length);
        Constructor<?> made = EffectCourt.class.getDeclaredConstructors()[0];
        expect.is("constructor", "public EffectCourt()", () -> made.toString());
        expect.is("class", "public final",
                () -> Modifier.toString(EffectCourt.class.getModifiers()));
        for (Field each : EffectCourt.class.getDeclaredFields()) {
            expect.is(each.getName(), true, () -> Modifier.isPrivate(each.getModifiers()));
        }
        expect.close();
    }

    private static String describe(Method method) {
        StringBuilder text = new StringBuilder(method.getReturnType().getSimpleName());
        text.append(' ').append(method.getName()).append('(');
        String comma = "";
        for (Class<?> each : method.getParameterTypes()) {
            text.append(comma).append(each.getSimpleName());
            comma = ",";
        }
        text.append(')');
        for (Class<?> each : method.getExceptionTypes()) {
            text.append(each.getSimpleName());
        }
        return text.toString();
    }
}
