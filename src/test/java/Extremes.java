import java.lang.reflect.InvocationTargetException;
import java.lang.reflect.Method;
import java.util.Arrays;
import java.util.Comparator;

/** LANGUAGE.md's rule 7: no call ever throws or fails to end, for any arguments in any state. */
public final class Extremes {
    private static final int[] NUMBERS = {Integer.MIN_VALUE, Integer.MIN_VALUE + 10, -1, 0, 1, 60, Integer.MAX_VALUE - 1, Integer.MAX_VALUE};
    private static final int CALLS = 512;
    private static int wrong = 0;
    private static int calls = 0;

    public static void main(String[] args) throws Exception {
        Method[] methods = methods();
        for (int state = 0; state < 3; state++) {
            FeetHorns x = object(state);
            int left = 0;
            for (Method m : methods) {
                int numbers = m.getParameterCount() == 6 ? 3 : NUMBERS.length;
                int ways = (int) Math.pow(numbers, m.getParameterCount());
                for (int way = 0; way < ways; way++) {
                    // nothing is promised of a later call, and other calls may have changed the state
                    if (left == 0) {
                        x = object(state);
                        left = CALLS - 300;
                    }
                    left--;
                    call(x, m, way, numbers);
                }
            }
        }
        dearestCalls();
        lastCall();
        System.out.println("extremes: " + calls + " calls, " + wrong + " not as due");
        if (wrong != 0) {
            System.exit(1);
        }
    }

    private static Method[] methods() {
        Method[] all = FeetHorns.class.getDeclaredMethods();
        Method[] faces = Arrays.stream(all).filter(m -> java.lang.reflect.Modifier.isPublic(m.getModifiers())).toArray(Method[]::new);
        Arrays.sort(faces, Comparator.comparing(Method::getName));
        return faces;
    }

    private static void call(FeetHorns x, Method m, int way, int numbers) throws IllegalAccessException {
        Object[] args = new Object[m.getParameterCount()];
        for (int i = 0, rest = way; i < args.length; i++, rest /= numbers) {
            int n = numbers == 3 ? rest % 3 - 1 : NUMBERS[rest % numbers];
            args[i] = m.getParameterTypes()[i] == long.class ? (Object) (long) n : (Object) n;
        }
        calls++;
        try {
            m.invoke(x, args);
        } catch (InvocationTargetException e) {
            wrong++;
            System.out.println(m.getName() + Arrays.toString(args) + " threw " + e.getCause());
        }
    }

    private static FeetHorns object(int state) {
        FeetHorns x = new FeetHorns();
        if (state == 0) {
            return x;
        }
        for (int s = 0; s < 5; s++) {
            x.sort(6 - s, 9 - s, 9, 9, 9, 99);
            x.herd(s, 0, 12);
            x.herd(s, 1, 12);
            x.tape(s, s, 60);
        }
        if (state == 1) {
            return x;
        }
        for (int f = 0; f < 6; f++) {
            for (char sign : "see 99 !m=9;owe 99 ((((s<9))));most 99".toCharArray()) {
                x.feed(sign);
            }
            x.fence();
        }
        for (int i = 0; i < 12; i++) {
            x.book(i % 3, 999);
        }
        x.tell(0, 999);
        x.tell(1, 0);
        x.image();
        x.act(0, 2, Integer.MIN_VALUE);
        return x;
    }

    /** As many as an object is used for, of the calls that look at the most herds. */
    private static void dearestCalls() {
        FeetHorns x = object(2);
        x.tell(0, -1);
        x.tell(1, -1);
        for (int i = 0; i < CALLS; i++) {
            calls++;
            long answer = i % 4 == 0 ? x.mix() : i % 4 == 1 ? x.hole(1) : i % 4 == 2 ? x.missed() : x.fits(0);
            // five sorts, nine beasts: 14 over 5 herds
            if (i % 4 == 3 && answer != 2002 || i % 4 == 0 && answer != -100001) {
                wrong++;
                System.out.println("the dearest calls: " + i % 4 + " answered " + answer);
            }
        }
    }

    /** The 512th call behind the making is answered as the first is. */
    private static void lastCall() {
        FeetHorns x = new FeetHorns();
        x.sort(0, 0, 1, 0, 0, 1);
        x.tell(0, 8);
        for (int call = 3; call <= CALLS; call++) {
            calls++;
            if (x.fits(10) != 8) {
                wrong++;
                System.out.println("call " + call + " is answered otherwise");
            }
        }
    }
}
