import java.lang.reflect.Method;
import java.util.List;
import java.util.Random;

/**
 * Rule 7 of LANGUAGE.md: no call throws or fails to end, for any numbers in any state. What calls behind
 * the 512th answer is free, but they may not throw either.
 */
public final class NeverThrowsTest {
    private static final Check check = new Check("NeverThrowsTest");
    private static final int OBJECTS = 60;
    private static final int CALLS = 3000;
    private static final int[] EXTREMES = {
        Integer.MIN_VALUE, Integer.MIN_VALUE + 1, Integer.MAX_VALUE, Integer.MAX_VALUE - 1, 1 << 30, -(1 << 30),
        1 << 16, -1, -2, -300, -301, 300, 301, 128, 255, 256, 9999, 10000, 20, 21, 31, 32, 33, 119, 120, 121};
    private static final String BYTES = "cflps;  0123456789abcdef";

    public static void main(String[] args) {
        for (int seed = 0; seed < OBJECTS; seed++) {
            check.due("object " + seed + ": calls that came back", run(new Random(seed), seed % 3), CALLS);
        }
        check.end();
    }

    private static int run(Random dice, int kind) {
        List<Method> face = Caller.face();
        HuesApart x = new HuesApart();
        int answered = 0;
        while (answered < CALLS) {
            Method m = face.get(dice.nextInt(face.size()));
            Object[] numbers = new Object[m.getParameterCount()];
            for (int k = 0; k < numbers.length; k++) {
                numbers[k] = m.getName().equals("type") ? someByte(dice) : number(dice, kind);
            }
            Caller.answer(x, m, numbers);
            answered++;
        }
        return answered;
    }

    /** Of kind 0 all numbers are extremes, of kind 1 one of eight, of kind 2 few. */
    private static int number(Random dice, int kind) {
        if (kind == 0 || dice.nextInt(kind == 1 ? 8 : 60) == 0) {
            return dice.nextBoolean() ? EXTREMES[dice.nextInt(EXTREMES.length)] : dice.nextInt();
        }
        return dice.nextInt(dice.nextInt(4) == 0 ? 256 : 5);
    }

    private static int someByte(Random dice) {
        return dice.nextInt(30) == 0 ? dice.nextInt(200) - 30 : BYTES.charAt(dice.nextInt(BYTES.length()));
    }
}
