import java.util.ArrayList;
import java.util.Arrays;
import java.util.List;

/**
 * Every refused call, in several states: it answers as the document says, of several grounds the one
 * named first, and all that later calls answer is as on a twin on which it was never made.
 */
public final class RefusalsTest {
    private static final int NUMBER = -1;
    private static final int FULL = -2;
    private static final int NONE = -3;
    private static final int MARKS = -4;
    private static final int STOP_NUMBER = -9;
    private static final int LEAST = Integer.MIN_VALUE;
    private static final int GREATEST = Integer.MAX_VALUE;
    private static final int CALLS = 512;

    private static int wrong = 0;
    private static int refused = 0;

    /** An object, with its calls counted: what it answers behind the 512th is free. */
    private static final class Counted {
        final FourStrings x = new FourStrings();
        int calls = 0;

        int call(String name, int... a) {
            calls++;
            if (calls > CALLS) {
                throw new IllegalStateException("the test calls too often");
            }
            switch (name) {
                case "tune": return x.tune(a[0], a[1]);
                case "note": return x.note(a[0], a[1], a[2], a[3]);
                case "stop": return x.stop(a[0], a[1], a[2]);
                case "mark": return x.mark(a[0], a[1], a[2]);
                case "cut": return x.cut(a[0]);
                case "of": return x.of(a[0], a[1], a[2]);
                case "hold": return x.hold(a[0], a[1], a[2]);
                case "hard": return x.hard(a[0]);
                case "finger": return x.finger(a[0], a[1], a[2]);
                case "shifts": return x.shifts(a[0]);
                case "bow": return x.bow(a[0], a[1]);
                case "stroke": return x.stroke(a[0], a[1], a[2]);
                case "strokes": return x.strokes(a[0], a[1], a[2]);
                case "alike": return x.alike(a[0], a[1], a[2], a[3]);
                case "union": return x.union(a[0]);
                case "many": return x.many(a[0]);
                default: throw new IllegalStateException(name);
            }
        }
    }

    /** A state, as the calls that lead to it from a new object: {name, arguments..}. */
    private static final class Scene {
        final String name;
        final List<Object[]> calls = new ArrayList<>();
        final int[] counts = new int[3];

        Scene(String name) {
            this.name = name;
        }

        Scene then(String call, int... arguments) {
            calls.add(new Object[] {call, arguments});
            counts[0] += call.equals("note") && arguments[0] == 0 ? 1 : 0;
            counts[1] += call.equals("note") && arguments[0] == 1 ? 1 : 0;
            counts[2] += call.equals("note") && arguments[0] == 2 ? 1 : 0;
            return this;
        }

        Counted make() {
            Counted made = new Counted();
            for (Object[] c : calls) {
                int got = made.call((String) c[0], (int[]) c[1]);
                if (got < 0 && !c[0].equals("stop") || got == STOP_NUMBER) {
                    throw new IllegalStateException(name + ": " + c[0] + Arrays.toString((int[]) c[1]));
                }
            }
            return made;
        }
    }

    private static Scene empty() {
        return new Scene("no notes");
    }

    /** Double stops, slurs, a rest, a free shift, notes that must be down; part 2 can't begin up. */
    private static Scene some() {
        return new Scene("some notes")
                .then("note", 0, 6, 2, 0).then("note", 0, 9, 1, 2).then("note", 0, 22, 1, 5)
                .then("stop", 0, 0, 13)
                .then("note", 1, 0, 2, 1).then("note", 1, 30, 1, 10)
                .then("stop", 1, 0, 7)
                .then("note", 2, 12, 2, 4).then("note", 2, 14, 2, 6)
                .then("tune", 2, 15);
    }

    /** Part 0 has twelve notes, part 1 no fingering, part 2 no notes. */
    private static Scene full() {
        Scene scene = new Scene("a full part");
        for (int n = 0; n < 12; n++) {
            scene.then("note", 0, 7 * (n % 4), 1 + n, n % 3 == 1 ? 2 : n % 3);
        }
        return scene.then("note", 1, 80, 16, 4);
    }

    /** Part 0 has no fingering for a slur, part 1 is full, part 2 has a note with many holds. */
    private static Scene odd() {
        Scene scene = new Scene("odd strings").then("tune", 0, 0).then("tune", 1, 1).then("tune", 2, 0)
                .then("tune", 3, 60).then("note", 0, 79, 16, 12).then("note", 0, 80, 16, 2);
        for (int n = 0; n < 12; n++) {
            scene.then("note", 1, 60, 16, n == 0 ? 4 : 6);
        }
        return scene.then("note", 2, 8, 16, 9).then("stop", 2, 0, 9);
    }

    /** The answers of all asking calls, then of changes that tell what was: all that can be seen. */
    private static List<Integer> later(Counted x) {
        List<Integer> all = new ArrayList<>();
        int[] counts = new int[3];
        for (int what = 0; what <= 6; what++) {
            int many = x.call("many", what);
            all.add(many);
            if (what < 3) {
                counts[what] = many;
            }
        }
        for (int what = 0; what <= 2; what++) {
            all.add(x.call("union", what));
        }
        for (int p = 0; p < 3; p++) {
            askPart(x, p, all);
            for (int n = 0; n < counts[p]; n++) {
                askNote(x, p, n, counts[p] > 6, all);
            }
        }
        all.add(x.call("alike", 0, 0, 1, 0));
        all.add(x.call("alike", 1, 0, 2, 0));
        changeAll(x, counts, all);
        return all;
    }

    private static void askPart(Counted x, int part, List<Integer> all) {
        all.add(x.call("hard", part));
        all.add(x.call("shifts", part));
        for (int first = 0; first <= 1; first++) {
            all.add(x.call("bow", part, first));
            for (int what = 0; what <= 2; what++) {
                all.add(x.call("strokes", part, first, what));
            }
        }
    }

    /** Full parts are asked less of each note, so that the calls stay few enough. */
    private static void askNote(Counted x, int part, int note, boolean isBrief, List<Integer> all) {
        for (int what = 0; what <= 5; what++) {
            all.add(x.call("of", part, note, what));
        }
        int holds = isBrief ? 2 : x.call("of", part, note, 5);
        for (int i = 0; i <= holds; i++) {
            all.add(x.call("hold", part, note, i));
        }
        for (int what = 0; what <= 5; what += isBrief ? 2 : 1) {
            all.add(x.call("finger", part, note, what));
        }
        all.add(x.call("stroke", part, note, 0));
        all.add(x.call("stroke", part, note, 1));
    }

    private static void changeAll(Counted x, int[] counts, List<Integer> all) {
        for (int s = 0; s < 4; s++) {
            all.add(x.call("tune", s, 2 + 8 * s));
        }
        for (int p = 0; p < 3; p++) {
            for (int n = 0; n < counts[p]; n++) {
                all.add(x.call("mark", p, n, n == 0 ? 0 : 2));
                all.add(x.call("stop", p, n, -1));
            }
            all.add(x.call("note", p, 10, 3, 8));
            all.add(x.call("hard", p));
            for (int n = 0; n <= counts[p] && n < 12; n++) {
                all.add(x.call("of", p, n, 4));
            }
            all.add(x.call("cut", p));
            all.add(x.call("hard", p));
            all.add(x.call("bow", p, 1));
        }
        all.add(x.call("union", 1));
        all.add(x.call("many", 3));
    }

    /** On a new object in this state, with fingerings worked out ahead or not. */
    private static void refuses(Scene scene, int want, String name, int... arguments) {
        refused++;
        for (int warm = 0; warm <= 1; warm++) {
            Counted twin = scene.make();
            Counted x = scene.make();
            for (Counted each : List.of(twin, x)) {
                for (int p = 0; warm == 1 && p < 3; p++) {
                    each.call("hard", p);
                }
            }
            String call = scene.name + ": " + name + Arrays.toString(arguments);
            int got = x.call(name, arguments);
            if (got != want) {
                wrong++;
                System.out.println(call + " answered " + got + ", due is " + want);
            }
            List<Integer> were = later(twin);
            List<Integer> are = later(x);
            if (!were.equals(are)) {
                wrong++;
                System.out.println(call + " changed what later calls answer: " + were + " to " + are);
            }
        }
    }

    /** The two last ones that may be, then those that may not: next to the bounds, and the farthest. */
    private static int[] around(int least, int most) {
        return new int[] {least, most, least - 1, most + 1, LEAST, GREATEST};
    }

    /** Every way to put together values of the ranges where one at least is outside its own. */
    private static void refusesOutside(Scene scene, int want, String name, int[]... ranges) {
        int all = 1;
        for (int[] range : ranges) {
            all *= around(range[0], range[1]).length;
        }
        for (int number = 0; number < all; number++) {
            int[] arguments = new int[ranges.length];
            boolean isOutside = false;
            int rest = number;
            for (int k = 0; k < ranges.length; k++) {
                int[] values = around(ranges[k][0], ranges[k][1]);
                arguments[k] = values[rest % values.length];
                isOutside |= arguments[k] < ranges[k][0] || arguments[k] > ranges[k][1];
                rest /= values.length;
            }
            if (isOutside) {
                refuses(scene, want, name, arguments);
            }
        }
    }

    private static int[] range(int least, int most) {
        return new int[] {least, most};
    }

    /** A number that is none is answered NUMBER, whatever else is wrong with the call. */
    private static void numbers(Scene scene) {
        int[] parts = range(0, 2);
        refusesOutside(scene, NUMBER, "tune", range(0, 3), range(0, 60));
        refusesOutside(scene, NUMBER, "cut", parts);
        refusesOutside(scene, NUMBER, "hard", parts);
        refusesOutside(scene, NUMBER, "shifts", parts);
        refusesOutside(scene, NUMBER, "bow", parts, range(0, 1));
        refusesOutside(scene, NUMBER, "strokes", parts, range(0, 1), range(0, 2));
        refusesOutside(scene, NUMBER, "union", range(0, 2));
        refusesOutside(scene, NUMBER, "many", range(0, 6));
        for (int p = 0; p < 3; p++) {
            numbersOfNotes(scene, p);
        }
    }

    /** Without notes the range is 0 to -1, and each of its ends is outside. */
    private static void numbersOfNotes(Scene scene, int part) {
        int[] notes = range(0, scene.counts[part] - 1);
        int[] only = range(part, part);
        for (int note : around(notes[0], notes[1])) {
            if (note >= notes[0] && note <= notes[1]) {
                continue;
            }
            for (int last : new int[] {0, 1, 2, 3, 5, 12, -1, LEAST, GREATEST}) {
                refuses(scene, STOP_NUMBER, "stop", part, note, last);
                refuses(scene, NUMBER, "mark", part, note, last);
                refuses(scene, NUMBER, "of", part, note, last);
                refuses(scene, NUMBER, "hold", part, note, last);
                refuses(scene, NUMBER, "finger", part, note, last);
                refuses(scene, NUMBER, "stroke", part, note, last);
            }
        }
        refusesOutsideOneByOne(scene, "mark", only, notes, range(0, 15));
        refusesOutsideOneByOne(scene, "of", only, notes, range(0, 5));
        refusesOutsideOneByOne(scene, "finger", only, notes, range(0, 5));
        refusesOutsideOneByOne(scene, "stroke", only, notes, range(0, 1));
    }

    /** A part that is none, or a last number that is none, for each note that there is. */
    private static void refusesOutsideOneByOne(Scene scene, String name, int[] part, int[] notes, int[] last) {
        for (int note = notes[0]; note <= notes[1]; note++) {
            for (int value : new int[] {last[0] - 1, last[1] + 1, LEAST, GREATEST}) {
                refuses(scene, NUMBER, name, part[0], note, value);
            }
            for (int none : new int[] {-1, 3, LEAST, GREATEST}) {
                refuses(scene, NUMBER, name, none, note, last[0]);
                refuses(scene, NUMBER, name, none, note, last[1]);
                refuses(scene, NUMBER, name, none, note, GREATEST);
            }
        }
    }

    private static void notesThatCanNotCome(Scene scene) {
        refusesOutside(scene, NUMBER, "note", range(0, 2), range(0, 80), range(1, 16), range(0, 15));
        for (int p = 0; p < 3; p++) {
            // 16 and more together with a slur where none may be: the number is named first
            refuses(scene, NUMBER, "note", p, 0, 1, 16 + 2);
            refuses(scene, NUMBER, "note", p, 0, 1, 16 + 3);
            refuses(scene, NUMBER, "note", p, 81, 1, 3);
            refuses(scene, NUMBER, "note", p, -1, 1, 3);
            refuses(scene, NUMBER, "note", p, 0, 0, 3);
            refuses(scene, NUMBER, "note", p, 0, 17, 3);
            for (int marks = 0; marks <= 15; marks++) {
                boolean isSlurred = (marks & 2) != 0;
                if (isSlurred && ((marks & 1) != 0 || scene.counts[p] == 0)) {
                    refuses(scene, MARKS, "note", p, 0, 1, marks);
                    refuses(scene, MARKS, "note", p, 80, 16, marks);
                } else if (scene.counts[p] == 12) {
                    refuses(scene, FULL, "note", p, 0, 1, marks);
                    refuses(scene, FULL, "note", p, 80, 16, marks);
                }
            }
        }
    }

    private static void marksThatCanNotBe(Scene scene) {
        for (int p = 0; p < 3; p++) {
            for (int n = 0; n < scene.counts[p]; n++) {
                for (int marks : new int[] {2, 3, 6, 7, 10, 11, 14, 15}) {
                    if (n == 0 || (marks & 1) != 0) {
                        refuses(scene, MARKS, "mark", p, n, marks);
                    }
                }
                refuses(scene, NUMBER, "mark", p, n, 16 + 2);
                refuses(scene, NUMBER, "mark", p, n, 16 + 3);
            }
        }
    }

    private static void stopsThatCanNotBe(Scene scene) {
        Counted asked = scene.make();
        for (int p = 0; p < 3; p++) {
            for (int n = 0; n < scene.counts[p]; n++) {
                int pitch = asked.call("of", p, n, 0);
                for (int second : new int[] {pitch, pitch - 1, 0, -2, -9, 81, LEAST, GREATEST}) {
                    if (second != -1) {
                        refuses(scene, STOP_NUMBER, "stop", p, n, second);
                    }
                }
                for (int none : new int[] {-1, 3, LEAST, GREATEST}) {
                    refuses(scene, STOP_NUMBER, "stop", none, n, -1);
                    refuses(scene, STOP_NUMBER, "stop", none, n, 80);
                    refuses(scene, STOP_NUMBER, "stop", none, n, 81);
                }
            }
        }
    }

    private static void alikeOutside(Scene scene) {
        for (int p = 0; p < 3; p++) {
            for (int q = 0; q < 3; q++) {
                for (int n : around(0, scene.counts[p] - 1)) {
                    for (int m : around(0, scene.counts[q] - 1)) {
                        boolean areThere = n >= 0 && n < scene.counts[p] && m >= 0 && m < scene.counts[q];
                        if (p == q || !areThere) {
                            refuses(scene, NUMBER, "alike", p, n, q, m);
                        }
                    }
                }
            }
            for (int none : new int[] {-1, 3, LEAST, GREATEST}) {
                refuses(scene, NUMBER, "alike", p, 0, none, 0);
                refuses(scene, NUMBER, "alike", none, 0, p, 0);
                refuses(scene, NUMBER, "alike", none, 0, none, 0);
                refuses(scene, NUMBER, "alike", none, none, none, none);
            }
        }
    }

    /** Where there is none: no holds, no second pitch, no notes to cut. */
    private static void nones(Scene scene) {
        Counted asked = scene.make();
        for (int p = 0; p < 3; p++) {
            if (scene.counts[p] == 0) {
                refuses(scene, NONE, "cut", p);
            }
            for (int n = 0; n < scene.counts[p]; n++) {
                int holds = asked.call("of", p, n, 5);
                for (int i : new int[] {-1, holds, holds + 1, LEAST, GREATEST}) {
                    refuses(scene, NONE, "hold", p, n, i);
                }
            }
        }
    }

    private static void noFingering(Scene scene, int part) {
        refuses(scene, NONE, "hard", part);
        refuses(scene, NONE, "shifts", part);
        for (int n = 0; n < scene.counts[part]; n++) {
            for (int what = 0; what <= 5; what++) {
                refuses(scene, NONE, "finger", part, n, what);
            }
            // named ahead of NONE
            for (int what : new int[] {-1, 6, LEAST, GREATEST}) {
                refuses(scene, NUMBER, "finger", part, n, what);
            }
        }
        refuses(scene, NUMBER, "finger", part, scene.counts[part], 0);
    }

    private static void noBowingUp(Scene scene, int part) {
        refuses(scene, NONE, "bow", part, 1);
        for (int n = 0; n < scene.counts[part]; n++) {
            refuses(scene, NONE, "stroke", part, n, 1);
        }
        for (int what = 0; what <= 2; what++) {
            refuses(scene, NONE, "strokes", part, 1, what);
        }
        // named ahead of NONE
        refuses(scene, NUMBER, "bow", part, 2);
        refuses(scene, NUMBER, "stroke", part, scene.counts[part], 1);
        refuses(scene, NUMBER, "stroke", part, -1, 1);
        refuses(scene, NUMBER, "strokes", part, 1, 3);
        refuses(scene, NUMBER, "strokes", part, 1, -1);
    }

    private static void noSecond(Scene scene, int part, int note) {
        refuses(scene, NONE, "of", part, note, 3);
        refuses(scene, NONE, "finger", part, note, 4);
        refuses(scene, NONE, "finger", part, note, 5);
    }

    public static void main(String[] args) {
        for (Scene scene : List.of(empty(), some(), full(), odd())) {
            numbers(scene);
            notesThatCanNotCome(scene);
            marksThatCanNotBe(scene);
            stopsThatCanNotBe(scene);
            alikeOutside(scene);
            nones(scene);
        }
        noSecond(some(), 0, 1);
        noSecond(some(), 2, 0);
        noSecond(full(), 0, 11);
        noSecond(odd(), 1, 11);
        noFingering(full(), 1);
        noFingering(odd(), 0);
        noBowingUp(some(), 2);
        noBowingUp(full(), 1);
        noBowingUp(odd(), 0);
        noBowingUp(odd(), 1);
        System.out.println(refused + " refused calls");
        System.out.println(wrong == 0 ? "all answers are as due" : wrong + " answers are not as due");
        if (wrong != 0) {
            System.exit(1);
        }
    }
}
