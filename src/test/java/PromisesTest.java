/** For each promise: ordinary inputs, the edges that the document names, and wrong inputs. */
public final class PromisesTest {
    private static final int NUMBER = FourStrings.NUMBER;
    private static final int FULL = FourStrings.FULL;
    private static final int NONE = FourStrings.NONE;
    private static final int MARKS = FourStrings.MARKS;

    private static int wrong = 0;

    private static void due(String what, int got, int want) {
        if (got != want) {
            wrong++;
            System.out.println(what + " answered " + got + ", due is " + want);
        }
    }

    public static void main(String[] args) {
        constants();
        newObject();
        tune();
        note();
        stop();
        mark();
        cut();
        of();
        hold();
        holdsOfDoubles();
        holdsOfDoublesOnTheLastStrings();
        hard();
        hardAtSlursAndRests();
        finger();
        fingerOfDoubles();
        shifts();
        bow();
        stroke();
        strokes();
        alike();
        union();
        many();
        fullParts();
        cutNotesAreForgotten();
        System.out.println(wrong == 0 ? "all answers are as due" : wrong + " answers are not as due");
        if (wrong != 0) {
            System.exit(1);
        }
    }

    /** A part 0 of notes of length 1, given as pitch and marks in turn. */
    private static FourStrings part(int... pitchesAndMarks) {
        FourStrings x = new FourStrings();
        add(x, 0, pitchesAndMarks);
        return x;
    }

    private static void add(FourStrings x, int part, int... pitchesAndMarks) {
        for (int i = 0; i + 1 < pitchesAndMarks.length; i += 2) {
            due("adding note " + i / 2, x.note(part, pitchesAndMarks[i], 1, pitchesAndMarks[i + 1]), i / 2);
        }
    }

    private static void holdsAre(String what, FourStrings x, int part, int note, int... names) {
        due(what + ": how many", x.of(part, note, 5), names.length);
        for (int i = 0; i < names.length; i++) {
            due(what + ": hold " + i, x.hold(part, note, i), names[i]);
        }
        due(what + ": hold behind the last", x.hold(part, note, names.length), NONE);
    }

    private static void strokesAre(String what, FourStrings x, int part, int first, int... directions) {
        for (int n = 0; n < directions.length; n++) {
            due(what + ": stroke " + n, x.stroke(part, n, first), directions[n]);
        }
    }

    private static void constants() {
        due("NUMBER", NUMBER, -1);
        due("FULL", FULL, -2);
        due("NONE", NONE, -3);
        due("MARKS", MARKS, -4);
    }

    private static void newObject() {
        FourStrings x = new FourStrings();
        for (int what = 0; what <= 6; what++) {
            due("1: many " + what, x.many(what), 0);
        }
        for (int p = 0; p < 3; p++) {
            due("1: no note", x.of(p, 0, 0), NUMBER);
            due("1: nothing to cut", x.cut(p), NONE);
        }
        int[] opens = {0, 7, 14, 21};
        for (int s = 0; s < 4; s++) {
            due("1: open " + s, x.tune(s, opens[s]), opens[s]);
        }
        x.note(0, 5, 1, 0);
        due("1: another object has its own notes", new FourStrings().many(0), 0);
    }

    private static void tune() {
        FourStrings x = new FourStrings();
        due("2: was 0", x.tune(0, 60), 0);
        due("2: was 60", x.tune(0, 0), 60);
        due("2: was 21", x.tune(3, 5), 21);
        due("2: string -1", x.tune(-1, 5), NUMBER);
        due("2: string 4", x.tune(4, 5), NUMBER);
        due("2: pitch -1", x.tune(3, -1), NUMBER);
        due("2: pitch 61", x.tune(3, 61), NUMBER);
        due("2: refused ones changed nothing", x.tune(3, 21), 5);
        x.note(0, 40, 1, 0);
        due("2: 40 is out of reach", x.hard(0), NONE);
        due("2: 40 open", x.tune(2, 40), 14);
        due("2: 40 is open now", x.hard(0), 0);
        due("2: string of it", x.finger(0, 0, 0), 2);
        due("2: finger of it", x.finger(0, 0, 2), 0);
    }

    private static void note() {
        FourStrings x = new FourStrings();
        due("3: part -1", x.note(-1, 0, 1, 0), NUMBER);
        due("3: part 3", x.note(3, 0, 1, 0), NUMBER);
        due("3: pitch -1", x.note(0, -1, 1, 0), NUMBER);
        due("3: pitch 81", x.note(0, 81, 1, 0), NUMBER);
        due("3: length 0", x.note(0, 0, 0, 0), NUMBER);
        due("3: length 17", x.note(0, 0, 17, 0), NUMBER);
        due("3: marks -1", x.note(0, 0, 1, -1), NUMBER);
        due("3: marks 16", x.note(0, 0, 1, 16), NUMBER);
        due("3: slurred from nothing", x.note(0, 0, 1, 2), MARKS);
        due("3: NUMBER ahead of MARKS", x.note(0, 81, 1, 2), NUMBER);
        due("3: nothing came", x.many(0), 0);
        due("3: all but a slur", x.note(0, 80, 16, 13), 0);
        due("3: slurred behind a rest", x.note(0, 0, 1, 3), MARKS);
        for (int n = 1; n < 12; n++) {
            due("3: note " + n, x.note(0, n, 1, 14), n);
        }
        due("3: full", x.note(0, 0, 1, 0), FULL);
        due("3: MARKS ahead of FULL", x.note(0, 0, 1, 3), MARKS);
        due("3: NUMBER ahead of FULL", x.note(0, 0, 0, 0), NUMBER);
        due("3: still twelve", x.many(0), 12);
        due("3: another part has its own", x.note(2, 3, 4, 1), 0);
        x.cut(0);
        due("3: room again", x.note(0, 30, 2, 0), 11);
        due("3: its pitch", x.of(0, 11, 0), 30);
    }

    private static void stop() {
        FourStrings x = part(10, 0, 80, 0);
        due("4: was none", x.stop(0, 0, 11), -1);
        due("4: was 11", x.stop(0, 0, 80), 11);
        due("4: the same", x.stop(0, 0, 10), -9);
        due("4: lesser", x.stop(0, 0, 9), -9);
        due("4: 81", x.stop(0, 0, 81), -9);
        due("4: -2", x.stop(0, 0, -2), -9);
        due("4: part 3", x.stop(3, 0, 20), -9);
        due("4: part -1", x.stop(-1, 0, 20), -9);
        due("4: note 2", x.stop(0, 2, 20), -9);
        due("4: note -1", x.stop(0, -1, 20), -9);
        due("4: refused ones changed nothing", x.of(0, 0, 3), 80);
        due("4: none any more", x.stop(0, 0, -1), 80);
        due("4: none", x.of(0, 0, 3), NONE);
        due("4: nothing above 80", x.stop(0, 1, 80), -9);
        due("4: -1 though", x.stop(0, 1, -1), -1);
        x.stop(0, 0, 17);
        x.cut(0);
        x.cut(0);
        x.note(0, 10, 1, 0);
        due("4: a new note has none", x.of(0, 0, 3), NONE);
        due("4: the fingering knows", x.finger(0, 0, 4), NONE);
        x.stop(0, 0, 17);
        due("4: and again", x.finger(0, 0, 4), 4);
    }

    private static void mark() {
        FourStrings x = part(0, 1, 2, 0);
        due("5: was 1", x.mark(0, 0, 12), 1);
        due("5: was 12", x.mark(0, 0, 13), 12);
        due("5: first can't be slurred", x.mark(0, 0, 2), MARKS);
        due("5: nor with a rest", x.mark(0, 1, 3), MARKS);
        due("5: all", x.mark(0, 1, 15), MARKS);
        due("5: marks 16", x.mark(0, 1, 16), NUMBER);
        due("5: marks -1", x.mark(0, 1, -1), NUMBER);
        due("5: note 2", x.mark(0, 2, 0), NUMBER);
        due("5: note -1", x.mark(0, -1, 0), NUMBER);
        due("5: NUMBER ahead of MARKS", x.mark(0, 2, 3), NUMBER);
        due("5: part 3", x.mark(3, 0, 0), NUMBER);
        due("5: part without notes", x.mark(1, 0, 0), NUMBER);
        due("5: refused ones changed nothing", x.mark(0, 1, 14), 0);
        due("5: now", x.of(0, 1, 2), 14);
    }

    private static void cut() {
        FourStrings x = part(0, 0, 79, 0);
        due("6: no fingering", x.hard(0), NONE);
        due("6: part -1", x.cut(-1), NUMBER);
        due("6: part 3", x.cut(3), NUMBER);
        due("6: none", x.cut(1), NONE);
        due("6: one left", x.cut(0), 1);
        due("6: the latest went", x.of(0, 0, 0), 0);
        due("6: it is gone", x.of(0, 1, 0), NUMBER);
        due("6: the fingering is back", x.hard(0), 0);
        due("6: none left", x.cut(0), 0);
        due("6: none to cut", x.cut(0), NONE);
    }

    private static void of() {
        FourStrings x = new FourStrings();
        x.note(1, 30, 5, 8);
        x.note(1, 31, 16, 2);
        x.note(1, 32, 1, 5);
        x.stop(1, 1, 39);
        due("7: pitch", x.of(1, 1, 0), 31);
        due("7: length", x.of(1, 1, 1), 16);
        due("7: marks", x.of(1, 2, 2), 5);
        due("7: second", x.of(1, 1, 3), 39);
        due("7: no second", x.of(1, 0, 3), NONE);
        due("7: onset of the first", x.of(1, 0, 4), 0);
        due("7: onset", x.of(1, 1, 4), 5);
        due("7: onset behind a rest", x.of(1, 2, 4), 21);
        due("7: holds", x.of(1, 0, 5), 12);
        due("7: what -1", x.of(1, 0, -1), NUMBER);
        due("7: what 6", x.of(1, 0, 6), NUMBER);
        due("7: note 3", x.of(1, 3, 0), NUMBER);
        due("7: note -1", x.of(1, -1, 0), NUMBER);
        due("7: part 3", x.of(3, 0, 0), NUMBER);
        due("7: part -1", x.of(-1, 0, 0), NUMBER);
        x.cut(1);
        x.cut(1);
        x.note(1, 3, 2, 0);
        x.note(1, 3, 2, 0);
        due("7: onset of another", x.of(1, 2, 4), 7);
    }

    private static void hold() {
        FourStrings x = part(1, 0, 7, 0, 17, 0, 80, 0, 18, 0);
        holdsAre("8: lowest stopped", x, 0, 0, 11);
        holdsAre("8: open and stopped", x, 0, 1, 19, 24, 28, 33, 47, 52, 66, 71, 1000);
        holdsAre("8: highest hands", x, 0, 2, 119, 124, 128, 1049, 1054, 1058, 1063, 1077, 1082, 1096,
                1101, 2012, 2026, 2031);
        holdsAre("8: out of reach", x, 0, 3);
        x.tune(1, 0);
        x.tune(2, 0);
        x.tune(3, 0);
        holdsAre("8: one hold on each", x, 0, 4, 129, 1129, 2129, 3129);
        due("8: -1", x.hold(0, 0, -1), NONE);
        due("8: far", x.hold(0, 0, Integer.MAX_VALUE), NONE);
        due("8: far below", x.hold(0, 0, Integer.MIN_VALUE), NONE);
        due("8: note 5", x.hold(0, 5, 0), NUMBER);
        due("8: note -1", x.hold(0, -1, 0), NUMBER);
        due("8: part 3", x.hold(3, 0, 0), NUMBER);
        due("8: part -1", x.hold(-1, 0, 0), NUMBER);
        due("8: NUMBER ahead of NONE", x.hold(1, 0, -1), NUMBER);
    }

    private static void holdsOfDoubles() {
        FourStrings x = part(0, 0);
        x.stop(0, 0, 9);
        // string 0 open, the next one stopped two higher: the hand is that of the stopped one
        holdsAre("8: open below stopped", x, 0, 0, 10, 20);
        x.stop(0, 0, 7);
        holdsAre("8: both open", x, 0, 0, 0);
        x.tune(1, 0);
        x.stop(0, 0, 1);
        // either pitch on either string
        holdsAre("8: unisono", x, 0, 0, 10, 11);
        x.tune(1, 7);
        x.cut(0);
        x.note(0, 6, 1, 0);
        x.stop(0, 0, 13);
        // a fifth: the same finger in the same height, or fingers 3 high and 4 low, which sound alike
        holdsAre("8: fifth", x, 0, 0, 14, 14, 18, 18, 23, 37, 42, 56, 61);
        x.tune(1, 6);
        x.stop(0, 0, 9);
        // heights 6 and 3; never one finger low and high at once; and 9 on string 0 beside the open one
        holdsAre("8: sixth", x, 0, 0, 14, 18, 23, 37, 39, 44, 48, 53, 67, 72, 86, 91);
    }

    private static void holdsOfDoublesOnTheLastStrings() {
        FourStrings x = part(26, 0);
        x.tune(0, 60);
        x.tune(1, 60);
        x.stop(0, 0, 33);
        holdsAre("8: strings 2 and 3", x, 0, 0, 2069, 2074, 2074, 2078, 2078, 2083, 2097, 2102, 2116, 2121);
        FourStrings y = part(15, 0);
        y.tune(0, 60);
        y.tune(1, 60);
        y.tune(2, 21);
        y.tune(3, 14);
        y.stop(0, 0, 22);
        holdsAre("8: the greater pitch on the lesser string", y, 0, 0, 2011);
        y.tune(2, 60);
        y.tune(1, 21);
        holdsAre("8: strings 1 and 3 aren't side by side", y, 0, 0);
    }

    private static void hard() {
        FourStrings x = new FourStrings();
        due("9: no notes", x.hard(0), 0);
        due("9: part -1", x.hard(-1), NUMBER);
        due("9: part 3", x.hard(3), NUMBER);
        x.note(0, 1, 1, 0);
        due("9: one note", x.hard(0), 0);
        x.note(0, 21, 1, 0);
        // 21 in hand 12 on string 1 costs 22 and 1, open on string 3 costs 3
        due("9: strings between", x.hard(0), 3);
        x.note(0, 80, 1, 0);
        due("9: a note that can't be had", x.hard(0), NONE);
        x.cut(0);
        due("9: gone", x.hard(0), 3);
        x.tune(1, 60);
        x.tune(2, 60);
        x.tune(3, 60);
        x.note(1, 1, 1, 0);
        x.note(1, 3, 1, 0);
        x.note(1, 4, 1, 0);
        // hand 1: fingers 1, 2, and 2 high
        due("9: an extension", x.hard(1), 1);
        x.note(1, 8, 1, 0);
        // fingers 1, 2; a shift to hand 2: 2, 4 high
        due("9: a shift", x.hard(1), 3);
        x.note(2, 18, 1, 0);
        due("9: hand 12, finger 4 high", x.hard(2), 1);
        x.stop(2, 0, 60);
        due("9: beside an open one", x.hard(2), 1);
    }

    private static void hardAtSlursAndRests() {
        FourStrings x = part(1, 0, 18, 0);
        for (int s = 1; s < 4; s++) {
            x.tune(s, 60);
        }
        due("9: hands 1 to 12, and an extension", x.hard(0), 23);
        x.mark(0, 1, 1);
        due("9: behind a rest", x.hard(0), 1);
        x.mark(0, 1, 8);
        due("9: free", x.hard(0), 1);
        x.mark(0, 1, 2);
        due("9: not within a slur", x.hard(0), NONE);
        due("9: no shifts then", x.shifts(0), NONE);
        due("9: no finger then", x.finger(0, 0, 0), NONE);
        due("9: one without", x.many(6), 1);
        x.mark(0, 1, 10);
        due("9: free within a slur", x.hard(0), 1);
        x.mark(0, 1, 4);
        due("9: as it was", x.hard(0), 23);
        FourStrings y = part(1, 0, 0, 2, 18, 2);
        for (int s = 1; s < 4; s++) {
            y.tune(s, 60);
        }
        due("9: an open string lets the hand go", y.hard(0), 1);
        y.tune(1, 0);
        y.tune(3, 0);
        y.stop(0, 1, 60);
        due("9: two open strings", y.hard(0), 1);
    }

    private static void finger() {
        FourStrings x = part(7, 0, 3, 0, 80, 0);
        due("10: none", x.finger(0, 0, 0), NONE);
        due("10: NUMBER ahead of NONE", x.finger(0, 0, 6), NUMBER);
        due("10: what -1", x.finger(0, 0, -1), NUMBER);
        x.cut(0);
        due("10: note 2", x.finger(0, 2, 0), NUMBER);
        due("10: note -1", x.finger(0, -1, 0), NUMBER);
        due("10: part 3", x.finger(3, 0, 0), NUMBER);
        due("10: part -1", x.finger(-1, 0, 0), NUMBER);
        // hand 2, finger 4 low has 7; 3 is finger 1 high there: cost 1. Hand 3: 7 is finger 3, 3 finger 1: cost 0
        int[] first = {0, 3, 3, 0, NONE, NONE};
        int[] second = {0, 3, 1, 0, NONE, NONE};
        for (int what = 0; what <= 5; what++) {
            due("10: first, " + what, x.finger(0, 0, what), first[what]);
            due("10: second, " + what, x.finger(0, 1, what), second[what]);
        }
        FourStrings y = part(4, 0);
        y.tune(1, 4);
        // both cost 0: of names 22, 41, 1000 the least
        due("10: the least name: string", y.finger(0, 0, 0), 0);
        due("10: the least name: hand", y.finger(0, 0, 1), 2);
        due("10: the least name: finger", y.finger(0, 0, 2), 2);
        FourStrings w = part(0, 0, 4, 0);
        // behind the open string hands 2 and 4 cost the same
        due("10: the least name of a later note", w.finger(0, 1, 1), 2);
        FourStrings z = part(6, 0, 11, 0);
        for (int s = 1; s < 4; s++) {
            z.tune(s, 60);
        }
        // 6 and 11 in one hand cost nothing only in hand 6
        due("10: looks ahead: hand", z.finger(0, 0, 1), 6);
        due("10: looks ahead: finger", z.finger(0, 1, 2), 4);
        z.cut(0);
        z.note(0, 12, 1, 0);
        due("10: high: cost", z.hard(0), 1);
        due("10: high: finger", z.finger(0, 1, 2), 4);
        due("10: high", z.finger(0, 1, 3), 1);
    }

    private static void fingerOfDoubles() {
        FourStrings x = part(6, 0);
        x.stop(0, 0, 13);
        // of 14 with 8 or 4 on the greater string: 4 costs no extension
        int[] fifth = {0, 1, 4, 0, 4, 0};
        for (int what = 0; what <= 5; what++) {
            due("10: fifth, " + what, x.finger(0, 0, what), fifth[what]);
        }
        x.cut(0);
        x.note(0, 7, 1, 0);
        x.stop(0, 0, 20);
        // 20 beside the open string: 13 above string 1 is none of its own, 6 above string 2
        int[] open = {1, 1, 0, 0, 4, 0};
        for (int what = 0; what <= 5; what++) {
            due("10: open, " + what, x.finger(0, 0, what), open[what]);
        }
        FourStrings y = part(4, 0, 4, 0);
        y.stop(0, 0, 17);
        for (int s = 1; s < 4; s++) {
            y.tune(s, s == 1 ? 0 : 60);
        }
        due("10: too far for a hand", y.hard(0), NONE);
        y.stop(0, 0, 10);
        // 4 and 10 on two strings of pitch 0: hand 4 with fingers 1 and 4 high, either way round
        int[] wide = {0, 4, 1, 0, 4, 1};
        for (int what = 0; what <= 5; what++) {
            due("10: wide, " + what, y.finger(0, 0, what), wide[what]);
        }
        due("10: wide, its other hold", y.hold(0, 0, 1), 49);
        FourStrings z = part(5, 0);
        z.tune(1, 0);
        z.stop(0, 0, 6);
        // in hands 3 and 5 one finger would be low and high at once
        holdsAre("10: unlike heights", z, 0, 0, 13, 14, 23, 27, 42, 46);
    }

    private static void shifts() {
        FourStrings x = new FourStrings();
        due("11: no notes", x.shifts(0), 0);
        due("11: part -1", x.shifts(-1), NUMBER);
        due("11: part 3", x.shifts(3), NUMBER);
        for (int s = 1; s < 4; s++) {
            x.tune(s, 60);
        }
        add(x, 0, 1, 0, 18, 0);
        due("11: one", x.shifts(0), 1);
        x.mark(0, 1, 1);
        due("11: behind a rest", x.shifts(0), 1);
        x.mark(0, 1, 8);
        due("11: free", x.shifts(0), 1);
        x.mark(0, 1, 10);
        due("11: free in a slur", x.shifts(0), 1);
        x.mark(0, 1, 2);
        due("11: none may be", x.shifts(0), NONE);
        x.mark(0, 1, 0);
        x.note(0, 0, 1, 0);
        x.note(0, 1, 1, 0);
        due("11: over an open string", x.shifts(0), 1);
        x.note(0, 18, 1, 0);
        x.note(0, 1, 1, 0);
        due("11: three", x.shifts(0), 3);
        x.note(0, 3, 1, 0);
        due("11: the hand stays", x.shifts(0), 3);
    }

    private static void bow() {
        FourStrings x = new FourStrings();
        due("12: no notes, down", x.bow(0, 0), 0);
        due("12: no notes, up", x.bow(0, 1), 0);
        due("12: part -1", x.bow(-1, 0), NUMBER);
        due("12: part 3", x.bow(3, 0), NUMBER);
        due("12: direction -1", x.bow(0, -1), NUMBER);
        due("12: direction 2", x.bow(0, 2), NUMBER);
        add(x, 0, 0, 0, 0, 4);
        due("12: a hook", x.bow(0, 0), 3);
        due("12: none needed", x.bow(0, 1), 0);
        x.mark(0, 1, 5);
        due("12: a hook behind a rest", x.bow(0, 0), 1);
        x.mark(0, 1, 6);
        due("12: a slur goes on", x.bow(0, 0), 0);
        due("12: a slur is parted", x.bow(0, 1), 2);
        x.mark(0, 0, 4);
        due("12: can't be up", x.bow(0, 1), NONE);
        due("12: NUMBER ahead of NONE", x.bow(0, 2), NUMBER);
        x.mark(0, 1, 0);
        due("12: down then up", x.bow(0, 0), 0);
        FourStrings y = part(0, 0, 0, 0, 0, 2, 0, 4);
        due("12: parting is cheaper than a hook", y.bow(0, 1), 2);
        due("12: nothing", y.bow(0, 0), 0);
    }

    private static void stroke() {
        FourStrings x = part(0, 0, 0, 0, 0, 2, 0, 4);
        strokesAre("13: down and up", x, 0, 0, 0, 1, 1, 0);
        // the slur is parted; never a hook, which costs more
        strokesAre("13: parted", x, 0, 1, 1, 0, 1, 0);
        due("13: note 4", x.stroke(0, 4, 0), NUMBER);
        due("13: note -1", x.stroke(0, -1, 0), NUMBER);
        due("13: part 3", x.stroke(3, 0, 0), NUMBER);
        due("13: part without notes", x.stroke(1, 0, 0), NUMBER);
        due("13: direction 2", x.stroke(0, 0, 2), NUMBER);
        due("13: direction -1", x.stroke(0, 0, -1), NUMBER);
        x.mark(0, 0, 4);
        due("13: none", x.stroke(0, 3, 1), NONE);
        due("13: NUMBER ahead of NONE", x.stroke(0, 4, 1), NUMBER);
        // one hook somewhere among three: the first place where it can be down
        FourStrings y = part(0, 0, 0, 0, 0, 0, 0, 4);
        strokesAre("13: the first unlike one is down", y, 0, 0, 0, 0, 1, 0);
        FourStrings z = part(0, 0, 0, 0, 0, 1, 0, 4);
        strokesAre("13: the hook behind the rest", z, 0, 0, 0, 1, 1, 0);
        FourStrings w = part(0, 0, 0, 0, 0, 0, 0, 0, 0, 4);
        strokesAre("13: up, with a later down", w, 0, 1, 1, 0, 0, 1, 0);
    }

    private static void strokes() {
        FourStrings x = new FourStrings();
        for (int what = 0; what <= 2; what++) {
            due("14: no notes, " + what, x.strokes(0, 1, what), 0);
        }
        add(x, 0, 0, 0, 0, 2, 0, 6, 0, 5, 0, 4);
        // up, up (or down), down: parted once; then a hook behind the rest and one more
        due("14: hooks, up", x.strokes(0, 1, 0), 2);
        due("14: parted, up", x.strokes(0, 1, 1), 1);
        due("14: strokes, up", x.strokes(0, 1, 2), 4);
        due("14: hooks, down", x.strokes(0, 0, 0), 2);
        due("14: parted, down", x.strokes(0, 0, 1), 0);
        due("14: strokes, down", x.strokes(0, 0, 2), 3);
        due("14: what 3", x.strokes(0, 0, 3), NUMBER);
        due("14: what -1", x.strokes(0, 0, -1), NUMBER);
        due("14: direction 2", x.strokes(0, 2, 0), NUMBER);
        due("14: direction -1", x.strokes(0, -1, 0), NUMBER);
        due("14: part 3", x.strokes(3, 0, 0), NUMBER);
        due("14: part -1", x.strokes(-1, 0, 0), NUMBER);
        FourStrings y = part(0, 4, 0, 4, 0, 4);
        due("14: hooks alone", y.strokes(0, 0, 0), 2);
        due("14: strokes of hooks", y.strokes(0, 0, 2), 3);
        x.mark(0, 0, 4);
        due("14: none", x.strokes(0, 1, 2), NONE);
        due("14: NUMBER ahead of NONE", x.strokes(0, 1, 3), NUMBER);
    }

    private static void alike() {
        FourStrings x = new FourStrings();
        x.note(0, 5, 2, 0);
        x.note(0, 6, 2, 1);
        x.note(1, 9, 2, 8);
        x.note(1, 9, 1, 0);
        x.note(1, 9, 1, 0);
        x.note(1, 9, 2, 0);
        x.note(2, 9, 1, 0);
        x.note(2, 9, 1, 0);
        x.note(2, 9, 2, 0);
        due("15: alike", x.alike(0, 0, 1, 0), 1);
        due("15: onsets alone", x.alike(0, 1, 1, 1), 0);
        due("15: lengths alone", x.alike(0, 1, 1, 3), 0);
        due("15: rests have no length", x.alike(0, 1, 2, 2), 1);
        due("15: the other way round", x.alike(2, 2, 0, 1), 1);
        due("15: the same part", x.alike(0, 0, 0, 1), NUMBER);
        due("15: the same note", x.alike(0, 0, 0, 0), NUMBER);
        due("15: part 3", x.alike(3, 0, 0, 0), NUMBER);
        due("15: part -1", x.alike(-1, 0, 0, 0), NUMBER);
        due("15: other 3", x.alike(0, 0, 3, 0), NUMBER);
        due("15: other -1", x.alike(0, 0, -1, 0), NUMBER);
        due("15: note 2", x.alike(0, 2, 1, 0), NUMBER);
        due("15: note -1", x.alike(0, -1, 1, 0), NUMBER);
        due("15: its 4", x.alike(0, 0, 1, 4), NUMBER);
        due("15: its -1", x.alike(0, 0, 1, -1), NUMBER);
    }

    private static void unionIs(String what, FourStrings x, int number, int sum, int unlike) {
        due(what + ": number", x.union(0), number);
        due(what + ": sum", x.union(1), sum);
        due(what + ": unlike", x.union(2), unlike);
    }

    private static void union() {
        FourStrings x = new FourStrings();
        unionIs("16: no notes", x, 0, 0, 0);
        due("16: what -1", x.union(-1), NUMBER);
        due("16: what 3", x.union(3), NUMBER);
        add(x, 0, 0, 0, 0, 4);
        unionIs("16: part 0 up", x, 1, 0, 0);
        add(x, 1, 0, 4, 0, 0);
        // both alike in unlike directions cost 8; both down, with a hook in part 0: 3 and 4
        unionIs("16: a hook for the union", x, 0, 7, 1);
        x.mark(0, 1, 5);
        unionIs("16: a hook behind a rest", x, 0, 5, 1);
        FourStrings y = new FourStrings();
        y.note(2, 0, 1, 0);
        y.note(2, 0, 1, 4);
        y.note(1, 0, 1, 0);
        unionIs("16: part 2 up, and part 1 with it", y, 6, 0, 0);
        y.cut(1);
        y.note(1, 0, 3, 0);
        unionIs("16: part 1 isn't alike any more", y, 4, 0, 0);
        FourStrings z = new FourStrings();
        for (int p = 0; p < 3; p++) {
            z.note(p, 0, 1, 0);
        }
        unionIs("16: all alike", z, 0, 0, 0);
        z.note(1, 0, 1, 4);
        unionIs("16: all up", z, 7, 0, 0);
        z.mark(0, 0, 4);
        // part 1 down with a hook costs 3, part 1 up costs 4 at least
        unionIs("16: all down, with a hook", z, 0, 3, 0);
    }

    private static void many() {
        FourStrings x = new FourStrings();
        add(x, 0, 80, 0, 0, 2, 0, 6);
        add(x, 1, 0, 0, 0, 2);
        add(x, 2, 5, 0);
        x.stop(2, 0, 6);
        x.stop(0, 1, 7);
        due("17: notes of 0", x.many(0), 3);
        due("17: notes of 1", x.many(1), 2);
        due("17: notes of 2", x.many(2), 1);
        due("17: alike", x.many(3), 4);
        due("17: doubles", x.many(4), 2);
        due("17: slurred", x.many(5), 3);
        due("17: without fingering", x.many(6), 2);
        due("17: what -1", x.many(-1), NUMBER);
        due("17: what 7", x.many(7), NUMBER);
        x.stop(2, 0, -1);
        due("17: doubles again", x.many(4), 1);
        due("17: without fingering again", x.many(6), 1);
        x.mark(0, 1, 0);
        due("17: slurred again", x.many(5), 2);
        x.cut(2);
        due("17: alike again", x.many(3), 2);
    }

    /** Twelve notes in each part: nothing may be left out, and no row may be too short. */
    private static void fullParts() {
        FourStrings x = new FourStrings();
        for (int s = 1; s < 4; s++) {
            x.tune(s, 60);
        }
        for (int p = 0; p < 3; p++) {
            for (int n = 0; n < 12; n++) {
                x.note(p, n % 2 == 0 ? 1 : 18, 16, p == 0 ? 0 : 4);
            }
        }
        due("full: hard", x.hard(0), 11 * 22 + 6);
        due("full: shifts", x.shifts(0), 11);
        due("full: last hand", x.finger(0, 11, 1), 12);
        due("full: last onset", x.of(0, 11, 4), 176);
        due("full: bow", x.bow(0, 1), 0);
        due("full: last stroke", x.stroke(0, 11, 1), 0);
        due("full: hooks cost", x.bow(1, 0), 33);
        due("full: hooks", x.strokes(1, 0, 0), 11);
        due("full: strokes", x.strokes(2, 0, 2), 12);
        due("full: parted", x.strokes(2, 0, 1), 0);
        due("full: alike", x.many(3), 36);
        due("full: union", x.union(0), 0);
        due("full: its sum", x.union(1), 66 + 4 * 12);
        due("full: its unlike ones", x.union(2), 12);
        due("full: doubles", x.many(4), 0);
        due("full: slurred", x.many(5), 0);
        due("full: without fingering", x.many(6), 0);
        for (int n = 1; n < 12; n++) {
            x.mark(2, n, 6);
        }
        due("full: all slurred", x.many(5), 11);
        due("full: one stroke", x.strokes(2, 0, 2), 1);
        due("full: no fingering within the slur", x.many(6), 1);
    }

    private static void cutNotesAreForgotten() {
        FourStrings x = new FourStrings();
        for (int p = 0; p < 2; p++) {
            add(x, p, 0, 0, 80, 4, 80, 6);
            x.stop(p, 2, -1);
        }
        x.cut(0);
        x.cut(0);
        x.cut(1);
        x.cut(1);
        due("6: alike", x.many(3), 1);
        due("6: slurred", x.many(5), 0);
        due("6: without fingering", x.many(6), 0);
        due("6: bow", x.bow(0, 0), 0);
        due("6: strokes", x.strokes(0, 0, 2), 1);
        due("6: hard", x.hard(0), 0);
        due("6: union", x.union(0), 0);
        x.cut(1);
        due("6: none alike", x.many(3), 0);
    }
}
