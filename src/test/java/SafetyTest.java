import java.util.Arrays;
import java.util.Random;

/** No call throws for any arguments, and a refused call changes nothing. */
public final class SafetyTest {
    private static final int[] ODD = {Integer.MIN_VALUE, Integer.MIN_VALUE + 1, -1000, -10, -9, -5, -4, -3,
        -2, -1, 0, 1, 2, 3, 4, 5, 6, 7, 8, 11, 12, 13, 14, 15, 16, 17, 20, 21, 59, 60, 61, 79, 80, 81, 1000,
        Integer.MAX_VALUE - 1, Integer.MAX_VALUE};
    private static final int CALLS = 512;
    private static int wrong = 0;

    public static void main(String[] args) {
        for (int run = 0; run < 2000; run++) {
            drawnRun(new Random(104729L * run));
        }
        mostHolds();
        System.out.println(wrong == 0 ? "all answers are as due" : wrong + " answers are not as due");
        if (wrong != 0) {
            System.exit(1);
        }
    }

    /** The same calls on two objects, but that the second one never sees a refused change. */
    private static void drawnRun(Random random) {
        FourStrings x = new FourStrings();
        FourStrings twin = new FourStrings();
        for (int i = 0; i < CALLS; i++) {
            int[] a = new int[4];
            for (int k = 0; k < a.length; k++) {
                a[k] = random.nextInt(3) != 0 ? random.nextInt(3) : ODD[random.nextInt(ODD.length)];
            }
            boolean isNote = i < 20 || random.nextInt(8) == 0;
            int which = isNote ? 1 : random.nextInt(16);
            if (isNote && random.nextInt(4) != 0) {
                a = new int[] {random.nextInt(3), random.nextInt(81), 1 + random.nextInt(16), random.nextInt(16)};
            }
            compare(x, twin, which, a);
        }
    }

    private static void compare(FourStrings x, FourStrings twin, int which, int[] a) {
        if (which >= 5) {
            same(which, a, ask(x, which, a), ask(twin, which, a));
            return;
        }
        int got = change(x, which, a);
        boolean isRefused = which == 2 ? got == -9 : got < 0;
        if (!isRefused) {
            same(which, a, got, change(twin, which, a));
        }
    }

    private static void same(int which, int[] a, int got, int want) {
        if (got != want) {
            wrong++;
            System.out.println("call " + which + Arrays.toString(a) + " answered " + got + ", without the refused"
                    + " ones ahead of it " + want);
        }
    }

    private static int change(FourStrings x, int which, int[] a) {
        switch (which) {
            case 0:
                return x.tune(a[0], a[1]);
            case 1:
                return x.note(a[0], a[1], a[2], a[3]);
            case 2:
                return x.stop(a[0], a[1], a[2]);
            case 3:
                return x.mark(a[0], a[1], a[2]);
            default:
                return x.cut(a[0]);
        }
    }

    private static int ask(FourStrings x, int which, int[] a) {
        switch (which) {
            case 5:
                return x.of(a[0], a[1], a[2]);
            case 6:
                return x.hold(a[0], a[1], a[2]);
            case 7:
                return x.hard(a[0]);
            case 8:
                return x.finger(a[0], a[1], a[2]);
            case 9:
                return x.shifts(a[0]);
            case 10:
                return x.bow(a[0], a[1]);
            case 11:
                return x.stroke(a[0], a[1], a[2]);
            case 12:
                return x.strokes(a[0], a[1], a[2]);
            case 13:
                return x.alike(a[0], a[1], a[2], a[3]);
            case 14:
                return x.union(a[0]);
            default:
                return x.many(a[0]);
        }
    }

    /** Strings near to one another have many holds: all of them must be listed, rising. */
    private static void mostHolds() {
        for (int open = 0; open <= 3; open++) {
            for (int second = 11; second < 30; second++) {
                FourStrings x = new FourStrings();
                for (int s = 0; s < 4; s++) {
                    x.tune(s, open * s);
                }
                x.note(0, 10, 1, 0);
                x.stop(0, 0, second);
                int count = x.of(0, 0, 5);
                for (int i = 1; i < count; i++) {
                    if (x.hold(0, 0, i - 1) > x.hold(0, 0, i)) {
                        wrong++;
                        System.out.println("hold " + i + " of 10 and " + second + " is out of its order");
                    }
                }
                if (x.hold(0, 0, count) != FourStrings.NONE) {
                    wrong++;
                    System.out.println("a hold behind the last one");
                }
            }
        }
    }
}
