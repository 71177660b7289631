import java.util.ArrayList;
import java.util.Arrays;
import java.util.List;
import java.util.Random;

/**
 * Long runs of drawn calls, with always the same seeds, against a plain second reading of the
 * document: holds by trying every hand and finger, bowings by trying all, fingerings by trying all
 * where they are few and else by keeping whole best beginnings.
 */
public final class OracleTest {
    private static final int RUNS = 600;
    private static final int CALLS = 512;
    private static int wrong = 0;
    private static int feasible = 0;
    private static int infeasible = 0;
    private static int triedAll = 0;

    private static final class Finger {
        int string;
        int hand;
        int finger;
        int high;
        int name() {
            return 1000 * string + 10 * hand + finger + 5 * high;
        }
    }

    private static final class Hold implements Comparable<Hold> {
        Finger lesser;
        Finger greater;
        int hand() {
            return greater == null ? lesser.hand : Math.max(lesser.hand, greater.hand);
        }
        int name() {
            return 1000 * lesser.string + 10 * hand() + lesser.finger + 5 * lesser.high;
        }
        int extensions() {
            return lesser.high + (greater == null ? 0 : greater.high);
        }
        public int compareTo(Hold o) {
            if (name() != o.name() || greater == null) {
                return Integer.compare(name(), o.name());
            }
            return Integer.compare(greater.name(), o.greater.name());
        }
    }

    private static final class Note {
        int pitch;
        int length;
        int marks;
        int second = -1;
    }

    private static final class Bowing {
        int cost;
        int[] directions;
    }

    private static final class Fingering {
        int cost;
        List<Hold> holds = new ArrayList<>();
    }

    private static final class Model {
        final int[] open = {0, 7, 14, 21};
        final List<List<Note>> parts = List.of(new ArrayList<>(), new ArrayList<>(), new ArrayList<>());

        boolean hasPart(int part) {
            return part >= 0 && part < 3;
        }

        boolean hasNote(int part, int note) {
            return hasPart(part) && note >= 0 && note < parts.get(part).size();
        }

        List<Finger> fingers(int string, int pitch) {
            List<Finger> found = new ArrayList<>();
            if (open[string] == pitch) {
                Finger f = new Finger();
                f.string = string;
                found.add(f);
            }
            int[] above = {0, 2, 4, 5};
            for (int hand = 1; hand <= 12; hand++) {
                for (int finger = 1; finger <= 4; finger++) {
                    for (int high = 0; high <= 1; high++) {
                        if (open[string] + hand + above[finger - 1] + high == pitch) {
                            Finger f = new Finger();
                            f.string = string;
                            f.hand = hand;
                            f.finger = finger;
                            f.high = high;
                            found.add(f);
                        }
                    }
                }
            }
            return found;
        }

        void pairs(List<Hold> into, int string, int pitch, int next) {
            for (Finger a : fingers(string, pitch)) {
                for (Finger b : fingers(string + 1, next)) {
                    boolean may = true;
                    if (a.finger > 0 && b.finger > 0) {
                        boolean same = a.finger == b.finger;
                        may = a.hand == b.hand && (!same || a.high == b.high);
                    }
                    if (may) {
                        Hold h = new Hold();
                        h.lesser = a;
                        h.greater = b;
                        into.add(h);
                    }
                }
            }
        }

        List<Hold> holds(Note note) {
            List<Hold> found = new ArrayList<>();
            if (note.second < 0) {
                for (int s = 0; s < 4; s++) {
                    for (Finger f : fingers(s, note.pitch)) {
                        Hold h = new Hold();
                        h.lesser = f;
                        found.add(h);
                    }
                }
            } else {
                for (int s = 0; s < 3; s++) {
                    pairs(found, s, note.pitch, note.second);
                    pairs(found, s, note.second, note.pitch);
                }
            }
            found.sort(null);
            return found;
        }

        /** -1: may not be. */
        int step(Hold a, Hold b, int marks) {
            int cost = Math.abs(a.lesser.string - b.lesser.string);
            int way = a.hand() == 0 || b.hand() == 0 ? 0 : Math.abs(a.hand() - b.hand());
            boolean free = (marks & 8) != 0;
            if (way != 0 && (marks & 2) != 0 && !free) {
                return -1;
            }
            return (marks & 1) != 0 || free ? cost : cost + 2 * way;
        }

        boolean isBetter(Fingering a, Fingering b) {
            if (b == null || a.cost != b.cost) {
                return b == null || a.cost < b.cost;
            }
            for (int i = 0; i < a.holds.size(); i++) {
                int c = a.holds.get(i).compareTo(b.holds.get(i));
                if (c != 0) {
                    return c < 0;
                }
            }
            return false;
        }

        Fingering longer(Fingering f, Hold h, int marks) {
            Fingering g = new Fingering();
            int step = f.holds.isEmpty() ? 0 : step(f.holds.get(f.holds.size() - 1), h, marks);
            if (step < 0) {
                return null;
            }
            g.cost = f.cost + step + h.extensions();
            g.holds.addAll(f.holds);
            g.holds.add(h);
            return g;
        }

        Fingering byTryingAll(List<Note> notes, Fingering f) {
            int n = f.holds.size();
            if (n == notes.size()) {
                return f;
            }
            Fingering best = null;
            for (Hold h : holds(notes.get(n))) {
                Fingering g = longer(f, h, notes.get(n).marks);
                Fingering whole = g == null ? null : byTryingAll(notes, g);
                if (whole != null && isBetter(whole, best)) {
                    best = whole;
                }
            }
            return best;
        }

        Fingering byBeginnings(List<Note> notes) {
            List<Fingering> kept = new ArrayList<>();
            kept.add(new Fingering());
            for (Note note : notes) {
                List<Fingering> next = new ArrayList<>();
                for (Hold h : holds(note)) {
                    Fingering best = null;
                    for (Fingering f : kept) {
                        Fingering g = longer(f, h, note.marks);
                        if (g != null && isBetter(g, best)) {
                            best = g;
                        }
                    }
                    if (best != null) {
                        next.add(best);
                    }
                }
                kept = next;
            }
            Fingering best = null;
            for (Fingering f : kept) {
                if (isBetter(f, best)) {
                    best = f;
                }
            }
            return best;
        }

        Fingering fingering(int part) {
            List<Note> notes = parts.get(part);
            Fingering f = byBeginnings(notes);
            if (notes.size() <= 3) {
                Fingering g = byTryingAll(notes, new Fingering());
                triedAll++;
                if ((f == null) != (g == null) || (f != null && (isBetter(f, g) || isBetter(g, f)))) {
                    wrong++;
                    System.out.println("the oracle is at odds with itself");
                }
            }
            if (f == null) {
                infeasible++;
            } else {
                feasible++;
            }
            return f;
        }

        int turn(List<Note> notes, int n, int before, int now) {
            int marks = notes.get(n).marks;
            if ((marks & 2) != 0) {
                return before == now ? 0 : 2;
            }
            return before != now ? 0 : (marks & 1) != 0 ? 1 : 3;
        }

        Bowing bowing(int part, int first) {
            List<Note> notes = parts.get(part);
            int size = notes.size();
            Bowing best = null;
            for (int bits = 0; bits < 1 << size; bits++) {
                int[] ways = new int[size];
                boolean may = true;
                int cost = 0;
                for (int n = 0; n < size; n++) {
                    // the first note is the highest bit, so that bits rise as the document's order does
                    ways[n] = bits >> size - 1 - n & 1;
                    may &= ways[n] == 0 || (notes.get(n).marks & 4) == 0;
                    cost += n == 0 ? 0 : turn(notes, n, ways[n - 1], ways[n]);
                }
                may &= size == 0 || ways[0] == first;
                if (may && (best == null || cost < best.cost)) {
                    best = new Bowing();
                    best.cost = cost;
                    best.directions = ways;
                }
            }
            return best;
        }

        int onset(int part, int note) {
            int sum = 0;
            for (int n = 0; n < note; n++) {
                sum += parts.get(part).get(n).length;
            }
            return sum;
        }

        boolean alike(int p, int n, int q, int m) {
            return onset(p, n) == onset(q, m)
                    && parts.get(p).get(n).length == parts.get(q).get(m).length;
        }

        int[] union() {
            Bowing[][] all = new Bowing[3][2];
            for (int p = 0; p < 3; p++) {
                all[p][0] = bowing(p, 0);
                all[p][1] = bowing(p, 1);
            }
            int[] best = null;
            for (int number = 0; number < 8; number++) {
                Bowing[] b = {all[0][number & 1], all[1][number / 2 & 1], all[2][number / 4]};
                if (b[0] == null || b[1] == null || b[2] == null) {
                    continue;
                }
                int unlike = 0;
                for (int p = 0; p < 3; p++) {
                    for (int q = 0; q < p; q++) {
                        for (int n = 0; n < parts.get(p).size(); n++) {
                            for (int m = 0; m < parts.get(q).size(); m++) {
                                if (alike(p, n, q, m) && b[p].directions[n] != b[q].directions[m]) {
                                    unlike++;
                                }
                            }
                        }
                    }
                }
                int sum = b[0].cost + b[1].cost + b[2].cost + 4 * unlike;
                if (best == null || sum < best[1]) {
                    best = new int[] {number, sum, unlike};
                }
            }
            return best;
        }

        boolean marksMayBe(int note, int marks) {
            return (marks & 2) == 0 || (note > 0 && (marks & 1) == 0);
        }

        int tune(int s, int pitch) {
            if (s < 0 || s > 3 || pitch < 0 || pitch > 60) {
                return -1;
            }
            int was = open[s];
            open[s] = pitch;
            return was;
        }

        int note(int p, int pitch, int length, int marks) {
            if (!hasPart(p) || pitch < 0 || pitch > 80 || length < 1 || length > 16 || marks < 0
                    || marks > 15) {
                return -1;
            }
            int size = parts.get(p).size();
            if (!marksMayBe(size, marks)) {
                return -4;
            }
            if (size == 12) {
                return -2;
            }
            Note n = new Note();
            n.pitch = pitch;
            n.length = length;
            n.marks = marks;
            parts.get(p).add(n);
            return size;
        }

        int stop(int p, int n, int pitch) {
            if (!hasNote(p, n)) {
                return -9;
            }
            Note it = parts.get(p).get(n);
            if (pitch != -1 && (pitch <= it.pitch || pitch > 80)) {
                return -9;
            }
            int was = it.second;
            it.second = pitch;
            return was;
        }

        int mark(int p, int n, int marks) {
            if (!hasNote(p, n) || marks < 0 || marks > 15) {
                return -1;
            }
            if (!marksMayBe(n, marks)) {
                return -4;
            }
            int was = parts.get(p).get(n).marks;
            parts.get(p).get(n).marks = marks;
            return was;
        }

        int cut(int p) {
            if (!hasPart(p)) {
                return -1;
            }
            int size = parts.get(p).size();
            if (size == 0) {
                return -3;
            }
            parts.get(p).remove(size - 1);
            return size - 1;
        }

        int of(int p, int n, int what) {
            if (!hasNote(p, n) || what < 0 || what > 5) {
                return -1;
            }
            Note it = parts.get(p).get(n);
            int[] all = {it.pitch, it.length, it.marks, it.second < 0 ? -3 : it.second, onset(p, n),
                holds(it).size()};
            return all[what];
        }

        int hold(int p, int n, int i) {
            if (!hasNote(p, n)) {
                return -1;
            }
            List<Hold> all = holds(parts.get(p).get(n));
            return i < 0 || i >= all.size() ? -3 : all.get(i).name();
        }

        int hard(int p) {
            if (!hasPart(p)) {
                return -1;
            }
            Fingering f = fingering(p);
            return f == null ? -3 : f.cost;
        }

        int[] fingerAll(int p, int n, Fingering f) {
            if (f == null) {
                return new int[] {-3, -3, -3, -3, -3, -3};
            }
            Hold h = f.holds.get(n);
            return new int[] {h.lesser.string, h.hand(), h.lesser.finger, h.lesser.high,
                h.greater == null ? -3 : h.greater.finger, h.greater == null ? -3 : h.greater.high};
        }

        int shifts(int p) {
            if (!hasPart(p)) {
                return -1;
            }
            Fingering f = fingering(p);
            if (f == null) {
                return -3;
            }
            int count = 0;
            for (int n = 1; n < f.holds.size(); n++) {
                int a = f.holds.get(n - 1).hand();
                int b = f.holds.get(n).hand();
                count += a != 0 && b != 0 && a != b ? 1 : 0;
            }
            return count;
        }

        int[] strokesAll(int p, Bowing b) {
            int[] counts = new int[3];
            List<Note> notes = parts.get(p);
            for (int n = 0; n < notes.size(); n++) {
                boolean slurred = (notes.get(n).marks & 2) != 0;
                boolean same = n > 0 && b.directions[n] == b.directions[n - 1];
                counts[0] += n > 0 && !slurred && same ? 1 : 0;
                counts[1] += slurred && !same ? 1 : 0;
                counts[2] += !slurred || !same ? 1 : 0;
            }
            return counts;
        }

        int[] many() {
            int[] all = new int[7];
            for (int p = 0; p < 3; p++) {
                all[p] = parts.get(p).size();
                for (int n = 0; n < all[p]; n++) {
                    all[4] += parts.get(p).get(n).second >= 0 ? 1 : 0;
                    all[5] += (parts.get(p).get(n).marks & 2) != 0 ? 1 : 0;
                    for (int q = 0; q < p; q++) {
                        for (int m = 0; m < parts.get(q).size(); m++) {
                            all[3] += alike(p, n, q, m) ? 1 : 0;
                        }
                    }
                }
                all[6] += fingering(p) == null ? 1 : 0;
            }
            return all;
        }
    }

    private static final class Run {
        final int number;
        final Random random;
        final FourStrings x = new FourStrings();
        final Model model = new Model();
        int calls = 0;

        Run(int number) {
            this.number = number;
            this.random = new Random(7919L * number);
        }

        void due(int got, int want, String call, int... args) {
            calls++;
            if (got != want) {
                wrong++;
                if (wrong < 20) {
                    System.out.println("run " + number + ", call " + calls + ": " + call
                            + Arrays.toString(args) + " answered " + got + ", due is " + want);
                }
            }
        }

        /** From least to most, now and then one outside. */
        int draw(int least, int most) {
            int odd = random.nextInt(120);
            if (odd == 0) {
                return least - 1;
            }
            if (odd == 1) {
                return most + 1;
            }
            return least + random.nextInt(most - least + 1);
        }

        int drawPitch() {
            int kind = number % 4;
            return kind == 0 ? draw(0, 80) : kind == 1 ? draw(0, 20) : kind == 2 ? draw(0, 40) : draw(5, 12);
        }

        int drawMarks() {
            int kind = random.nextInt(6);
            return kind == 0 ? draw(0, 15) : kind == 1 ? 2 : kind == 2 ? 4 : kind == 3 ? 6 : kind == 4 ? 1 : 0;
        }

        int drawNote(int part) {
            int size = part >= 0 && part < 3 ? model.parts.get(part).size() : 0;
            return size == 0 ? draw(0, 2) : draw(0, size - 1);
        }

        void change() {
            int p = draw(0, 2);
            int n = drawNote(p);
            int kind = random.nextInt(20);
            if (kind == 0) {
                int s = draw(0, 3);
                int pitch = number % 3 == 0 ? draw(0, 60) : draw(0, 21);
                due(x.tune(s, pitch), model.tune(s, pitch), "tune", s, pitch);
            } else if (kind < 9) {
                int pitch = drawPitch();
                int length = number % 2 == 0 ? draw(1, 2) : random.nextInt(3) == 0 ? draw(1, 16) : 1;
                int marks = drawMarks();
                due(x.note(p, pitch, length, marks), model.note(p, pitch, length, marks), "note", p, pitch,
                        length, marks);
            } else if (kind < 13) {
                int first = model.hasNote(p, n) ? model.parts.get(p).get(n).pitch : 0;
                int pitch = random.nextInt(3) == 0 ? -1 : first + draw(1, 14);
                due(x.stop(p, n, pitch), model.stop(p, n, pitch), "stop", p, n, pitch);
            } else if (kind < 17) {
                int marks = drawMarks();
                due(x.mark(p, n, marks), model.mark(p, n, marks), "mark", p, n, marks);
            } else {
                due(x.cut(p), model.cut(p), "cut", p);
            }
        }

        void ask() {
            int p = draw(0, 2);
            int n = drawNote(p);
            int first = draw(0, 1);
            switch (random.nextInt(8)) {
                case 0:
                    askOf(p, n);
                    break;
                case 1:
                    due(x.hard(p), model.hard(p), "hard", p);
                    due(x.shifts(p), model.shifts(p), "shifts", p);
                    break;
                case 2:
                case 3:
                    askFinger(p);
                    break;
                case 4:
                case 5:
                    askBow(p, first);
                    break;
                case 6:
                    askUnion();
                    break;
                default:
                    askMany(p, n);
                    break;
            }
        }

        void askOf(int p, int n) {
            int what = draw(0, 5);
            due(x.of(p, n, what), model.of(p, n, what), "of", p, n, what);
            int count = model.of(p, n, 5);
            for (int i = -1; i <= count; i++) {
                due(x.hold(p, n, i), model.hold(p, n, i), "hold", p, n, i);
            }
        }

        void askFinger(int p) {
            if (!model.hasPart(p)) {
                due(x.finger(p, 0, 0), -1, "finger", p, 0, 0);
                return;
            }
            Fingering f = model.fingering(p);
            for (int n = 0; n < model.parts.get(p).size(); n++) {
                int[] all = model.fingerAll(p, n, f);
                int what = random.nextInt(3);
                due(x.finger(p, n, what), all[what], "finger", p, n, what);
                due(x.finger(p, n, what + 3), all[what + 3], "finger", p, n, what + 3);
            }
        }

        void askBow(int p, int first) {
            if (!model.hasPart(p) || first < 0 || first > 1) {
                due(x.bow(p, first), -1, "bow", p, first);
                due(x.stroke(p, 0, first), -1, "stroke", p, 0, first);
                due(x.strokes(p, first, 0), -1, "strokes", p, first, 0);
                return;
            }
            Bowing b = model.bowing(p, first);
            due(x.bow(p, first), b == null ? -3 : b.cost, "bow", p, first);
            for (int n = 0; n < model.parts.get(p).size(); n++) {
                due(x.stroke(p, n, first), b == null ? -3 : b.directions[n], "stroke", p, n, first);
            }
            for (int what = 0; what < 3; what++) {
                int want = b == null ? -3 : model.strokesAll(p, b)[what];
                due(x.strokes(p, first, what), want, "strokes", p, first, what);
            }
        }

        void askUnion() {
            int[] all = model.union();
            for (int what = 0; what < 3; what++) {
                due(x.union(what), all[what], "union", what);
            }
        }

        void askMany(int p, int n) {
            int[] all = model.many();
            for (int what = 0; what < 7; what++) {
                due(x.many(what), all[what], "many", what);
            }
            int q = draw(0, 2);
            int m = drawNote(q);
            boolean may = model.hasNote(p, n) && model.hasNote(q, m) && p != q;
            due(x.alike(p, n, q, m), !may ? -1 : model.alike(p, n, q, m) ? 1 : 0, "alike", p, n, q, m);
        }

        void go() {
            while (calls < CALLS - 80) {
                if (random.nextInt(3) == 0) {
                    ask();
                } else {
                    change();
                }
            }
        }
    }

    public static void main(String[] args) {
        int runs = args.length > 0 ? Integer.parseInt(args[0]) : RUNS;
        for (int run = 0; run < runs; run++) {
            new Run(run).go();
        }
        System.out.println(feasible + " fingerings, " + infeasible + " times none, " + triedAll + " by trying all");
        System.out.println(wrong == 0 ? "all answers are as due" : wrong + " answers are not as due");
        if (wrong != 0) {
            System.exit(1);
        }
    }
}
