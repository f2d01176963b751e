import java.lang.reflect.Constructor;
import java.lang.reflect.Field;
import java.lang.reflect.Method;

/**
 * What holds always can't be seen to fail from outside. So these tests reach inside: they see that
 * isSound() and the balance behind holds() would tell it, if something did not hold. How the state
 * is held is free: where the inside is another one, they ask nothing, and say so.
 */
final class SoundnessTests {
    private SoundnessTests() {
    }

    static void run() {
        if (!isKnownInside()) {
            System.out.println("SoundnessTests: the inside is not the one they know, nothing is asked");
            return;
        }
        Check.test("promise 47: isSound sees an ARGUMENT that is none of the SET", () -> testIsSound());
        Check.test("promise 31: the balance sees the least digit that is lost", () -> testBalance());
    }

    private static boolean isKnownInside() {
        try {
            Class<?> balance = Class.forName("Nearplaces$Balance");
            balance.getDeclaredMethod("weigh", long.class);
            balance.getDeclaredMethod("comesToZero");
            return Nearplaces.class.getDeclaredField("arguments").getType() == long[].class;
        } catch (ReflectiveOperationException thrown) {
            return false;
        }
    }

    private static void testIsSound() {
        for (int cell = 0; cell < 8; cell++) {
            Nearplaces x = new Nearplaces();
            Check.due("isSound() before", true, x::isSound);
            long sound = x.digest();
            cells(x)[cell] = Model.bits(5.0);
            Check.due("isSound() with 5 in cell " + cell, false, x::isSound);
            cells(x)[cell] = 0;
            Check.due("isSound() again", true, x::isSound);
            Check.due("digest() again", sound, x::digest);
        }
    }

    private static long[] cells(Nearplaces x) {
        try {
            Field field = Nearplaces.class.getDeclaredField("arguments");
            field.setAccessible(true);
            return (long[]) field.get(x);
        } catch (ReflectiveOperationException thrown) {
            throw new IllegalStateException(thrown);
        }
    }

    private static void testBalance() {
        dueBalanced(true);
        dueBalanced(true, 1.0, -1.0);
        dueBalanced(true, 1.0, -0.5, -0.25, -0.25);
        dueBalanced(true, 0.0, -0.0);
        dueBalanced(true, Double.MAX_VALUE, Double.MIN_VALUE, -Double.MAX_VALUE, -Double.MIN_VALUE);
        dueBalanced(true, 0x1p1000, -0x1.fffffffffffffp999, -0x1p947);
        dueBalanced(false, 1.0);
        dueBalanced(false, Double.MIN_VALUE);
        dueBalanced(false, -Double.MIN_VALUE);
        dueBalanced(false, Double.MAX_VALUE);
        dueBalanced(false, -Double.MAX_VALUE);
        dueBalanced(false, 1.0, Double.MIN_VALUE, -1.0);
        dueBalanced(false, 1.0, 0x1p-53, -1.0);
        dueBalanced(false, 0x1p1000, -0x1.fffffffffffffp999, -0x1p946);
        for (int power = -1074; power < 1023; power++) {
            double one = Math.scalb(1.0, power);
            dueBalanced(true, one, one, -2 * one);
            dueBalanced(false, one, -one, one);
            dueBalanced(false, one, -2 * one);
        }
    }

    private static void dueBalanced(boolean due, double... values) {
        try {
            Class<?> kind = Class.forName("Nearplaces$Balance");
            Constructor<?> constructor = kind.getDeclaredConstructor();
            Method weigh = kind.getDeclaredMethod("weigh", long.class);
            Method comesToZero = kind.getDeclaredMethod("comesToZero");
            constructor.setAccessible(true);
            weigh.setAccessible(true);
            comesToZero.setAccessible(true);
            Object balance = constructor.newInstance();
            for (double value : values) {
                weigh.invoke(balance, Model.bits(value));
            }
            Object got = comesToZero.invoke(balance);
            Object after = comesToZero.invoke(balance);
            Check.due("balance of " + java.util.Arrays.toString(values), due, () -> got);
            Check.due("balance after that", true, () -> after);
        } catch (ReflectiveOperationException thrown) {
            throw new IllegalStateException(thrown);
        }
    }
}
