import java.util.Random;

/** No call throws for any arguments, and a refused call changes nothing. */
public final class SafetyTest {
    private static final int[] ODD = {Integer.MIN_VALUE, Integer.MIN_VALUE + 1, -1000, -10, -9, -5, -4, -3,
        -2, -1, 0, 1, 2, 3, 4, 5, 6, 7, 8, 11, 12, 13, 14, 15, 16, 17, 20, 21, 59, 60, 61, 79, 80, 81, 1000,
        Integer.MAX_VALUE - 1, Integer.MAX_VALUE};
    private static int wrong = 0;

    public static void main(String[] args) {
        for (int run = 0; run < 400; run++) {
            drawnRun(new Random(104729L * run));
        }
        mostHolds();
        System.out.println(wrong == 0 ? "all answers are as due" : wrong + " answers are not as due");
        if (wrong != 0) {
            System.exit(1);
        }
    }

    private static void drawnRun(Random random) {
        FourStrings x = new FourStrings();
        for (int i = 0; i < 20; i++) {
            x.note(random.nextInt(3), random.nextInt(81), 1 + random.nextInt(16), random.nextInt(16));
        }
        for (int i = 0; i < 200; i++) {
            int[] a = new int[5];
            for (int k = 0; k < a.length; k++) {
                a[k] = random.nextInt(3) == 0 ? random.nextInt(3) : ODD[random.nextInt(ODD.length)];
            }
            call(x, random.nextInt(16), a);
        }
    }

    private static void call(FourStrings x, int which, int[] a) {
        String before = which < 5 ? state(x) : "";
        int got = which < 5 ? change(x, which, a) : ask(x, which, a);
        boolean isRefused = which == 2 ? got == -9 : got < 0;
        if (which < 5 && isRefused && !before.equals(state(x))) {
            wrong++;
            System.out.println("the refused call " + which + " changed something");
        }
    }

    private static int change(FourStrings x, int which, int[] a) {
        switch (which) {
            case 0:
                return x.tune(a[0], a[1]);
            case 1:
                return x.note(a[0], a[1], a[2], a[3]);
            case 2:
                return x.stop(a[0], a[1], a[2]);
            case 3:
                return x.mark(a[0], a[1], a[2]);
            default:
                return x.cut(a[0]);
        }
    }

    private static int ask(FourStrings x, int which, int[] a) {
        switch (which) {
            case 5:
                return x.of(a[0], a[1], a[2]);
            case 6:
                return x.hold(a[0], a[1], a[2]);
            case 7:
                return x.hard(a[0]);
            case 8:
                return x.finger(a[0], a[1], a[2]);
            case 9:
                return x.shifts(a[0]);
            case 10:
                return x.bow(a[0], a[1]);
            case 11:
                return x.stroke(a[0], a[1], a[2]);
            case 12:
                return x.strokes(a[0], a[1], a[2]);
            case 13:
                return x.alike(a[0], a[1], a[2], a[3]);
            case 14:
                return x.union(a[0]);
            default:
                return x.many(a[0]);
        }
    }

    /** Every answer that tells of the notes; the tuning shows in how many holds there are. */
    private static String state(FourStrings x) {
        StringBuilder all = new StringBuilder();
        for (int p = 0; p < 3; p++) {
            all.append(x.many(p)).append(' ').append(x.hard(p)).append(':');
            for (int n = 0; n < x.many(p); n++) {
                for (int what = 0; what < 6; what++) {
                    all.append(x.of(p, n, what)).append(' ');
                }
            }
        }
        return all.toString();
    }

    /** All strings alike have the most holds: all of them must be listed, rising. */
    private static void mostHolds() {
        for (int open = 0; open <= 3; open++) {
            for (int second = 11; second < 30; second++) {
                FourStrings x = new FourStrings();
                for (int s = 0; s < 4; s++) {
                    x.tune(s, open * s);
                }
                x.note(0, 10, 1, 0);
                x.stop(0, 0, second);
                int count = x.of(0, 0, 5);
                for (int i = 1; i < count; i++) {
                    if (x.hold(0, 0, i - 1) > x.hold(0, 0, i)) {
                        wrong++;
                        System.out.println("hold " + i + " of 10 and " + second + " is out of its order");
                    }
                }
                if (x.hold(0, 0, count) != FourStrings.NONE) {
                    wrong++;
                    System.out.println("a hold behind the last one");
                }
            }
        }
    }
}
