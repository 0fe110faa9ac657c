import java.lang.reflect.InvocationTargetException;
import java.lang.reflect.Method;
import java.lang.reflect.Modifier;
import java.util.NoSuchElementException;

/** Every call with every row of odd arguments in several states: the plain model's answer, or what may be thrown. */
final class WildTest {
    private static final int[] ODD = {Integer.MIN_VALUE, -2, -1, 0, 1, 2, 3, 5, 6, 99, 100, Integer.MAX_VALUE};
    /** For calls of four arguments, of which there would be too many rows. */
    private static final int[] FEWER = {Integer.MIN_VALUE, -1, 0, 1, 2, 5, 6};
    private static final String SIX = Texts.river("ra", "brook", 99, 20, 0, "99 0 5 8", "mill 9 at 20 town 9 at 50")
            + Texts.river("rb", "proud", 90, 20, 20, "9 9 9 9", "town 0 at 20 of ra")
            + Texts.river("rc", "clear", 80, 10, 40, "1 2 3 4", "mill 1 at 80 of rb")
            + Texts.river("rd", "brook", 70, 10, 40, "0 0 0 0", "")
            + Texts.river("re", "salt", 60, 0, 99, "7 7 7 7", "town 6 at 0")
            + Texts.river("rf", "brook", 50, 0, 99, "30 20 10 0", "mill 40 at 0 town 60 at 0 of ra")
            + "range 10 thick 9 ; range 30 thick 1 ; range 60 thick 99 ; kin 1 ; storm 3 by 20 ; dowry flow + dig - near ; "
            + "silt flow - fall ; ";
    private static final long THROWN = 1L << 40;

    private static int right = 0;
    private static int wrong = 0;

    private RiverVows is;
    private Plain due;
    private int calls;

    public static void main(String[] args) throws ReflectiveOperationException {
        for (int state = 0; state < 4; state++) {
            for (Method method : RiverVows.class.getDeclaredMethods()) {
                if (Modifier.isPublic(method.getModifiers())) {
                    new WildTest().rows(state, method);
                }
            }
        }
        System.out.println("WildTest: " + right + " calls as due, " + wrong + " not");
        System.exit(wrong == 0 ? 0 : 1);
    }

    private void rows(int state, Method method) throws ReflectiveOperationException {
        Class<?>[] kinds = method.getParameterTypes();
        int[] odd = kinds.length > 3 ? FEWER : ODD;
        int many = 1;
        for (int i = 0; i < kinds.length; i++) {
            many *= odd.length;
        }
        Method plain = Plain.class.getDeclaredMethod(method.getName(), kinds);
        for (int row = 0; row < many; row++) {
            if (row == 0 || calls >= 200) {
                begin(state);
            }
            Object[] arguments = new Object[kinds.length];
            int left = row;
            for (int i = 0; i < kinds.length; i++) {
                arguments[i] = argument(kinds[i], odd[left % odd.length]);
                left /= odd.length;
            }
            calls++;
            hold(state, method, arguments, answer(method, is, arguments), answer(plain, due, arguments));
        }
    }

    private static Object argument(Class<?> kind, int value) {
        if (kind == boolean.class) {
            return (value & 1) != 0;
        }
        return kind == long.class ? (Object) (long) value : (Object) value;
    }

    /** What is thrown is an answer too: but one. */
    private static long answer(Method method, Object object, Object[] arguments) throws ReflectiveOperationException {
        try {
            Object answer = method.invoke(object, arguments);
            return answer instanceof Boolean ? ((Boolean) answer ? 1 : 0) : (Integer) answer;
        } catch (InvocationTargetException e) {
            boolean may = method.getName().equals("river") || method.getName().equals("worst");
            return may && e.getCause().getClass() == NoSuchElementException.class ? THROWN : THROWN + 1;
        }
    }

    private static void hold(int state, Method method, Object[] arguments, long got, long want) {
        if (got == want && got <= THROWN) {
            right++;
            return;
        }
        wrong++;
        System.out.println("state " + state + ": " + method.getName() + java.util.Arrays.toString(arguments) + " answered " + got
                + ", due is " + want);
    }

    /** 0: a new object, 1: six rivers, 2: some of them wed, 3: all that can be is full. */
    private void begin(int state) {
        is = new RiverVows();
        due = new Plain();
        calls = 0;
        if (state == 0) {
            return;
        }
        feed(SIX);
        is.land();
        due.land();
        if (state == 1) {
            return;
        }
        int[][] weddings = {{0, 1}, {1, 3}, {3, 2}, {2, 5}};
        for (int[] two : weddings) {
            is.wed(two[0], two[1]);
            due.wed(two[0], two[1]);
        }
        if (state == 3) {
            fill();
        }
    }

    private void fill() {
        feed("season ; wed ra rb ; part rb ; wed rb rd ; ".repeat(6));
        is.vows();
        due.vows();
        feed("heir 1 ; heir 0 ; heir 99 ; heir 7 ; heir 7 ; heir 2 ; ");
        is.will();
        due.will();
        for (int i = 0; i < 10; i++) {
            is.tell(3, 2, 14);
            due.tell(3, 2, 14);
        }
        for (int mark = 0; mark < 4; mark++) {
            is.mark(mark, false);
            due.mark(mark, false);
            is.seasons(7);
            due.seasons(7);
        }
        feed(" ".repeat(1000));
    }

    private void feed(String text) {
        Saying.feed(is, text);
        for (char sign : text.toCharArray()) {
            due.feed(sign, 0, 0);
        }
    }
}
