/**
 * For each promise each sentence that names what a call refuses, or an edge: the last number that
 * may be and the first that may not, the least and the greatest int, and what is as before.
 */
public final class CallsBoundsTest {
    private static final int NUMBER = -1;
    private static final int FULL = -2;
    private static final int NONE = -3;
    private static final int MARKS = -4;
    private static final int STOP_NUMBER = -9;
    private static final int LEAST = Integer.MIN_VALUE;
    private static final int GREATEST = Integer.MAX_VALUE;
    private static final int[] NO_PARTS = {-1, 3, LEAST, GREATEST};

    private static int wrong = 0;

    private static void due(String what, int got, int want) {
        if (got != want) {
            wrong++;
            System.out.println(what + " answered " + got + ", due is " + want);
        }
    }

    /** Just outside of a range, and as far as can be. */
    private static int[] outside(int least, int most) {
        return new int[] {least - 1, most + 1, LEAST, GREATEST};
    }

    /** Part 0 has three notes, the first one a fifth; part 1 one note; part 2 none. */
    private static FourStrings some() {
        FourStrings x = new FourStrings();
        x.note(0, 6, 2, 0);
        x.note(0, 9, 1, 2);
        x.note(0, 22, 3, 5);
        x.stop(0, 0, 13);
        x.note(1, 30, 2, 8);
        return x;
    }

    private static FourStrings lone(int... pitchesAndMarks) {
        FourStrings x = new FourStrings();
        for (int s = 1; s < 4; s++) {
            x.tune(s, 60);
        }
        for (int i = 0; i + 1 < pitchesAndMarks.length; i += 2) {
            x.note(0, pitchesAndMarks[i], 1, pitchesAndMarks[i + 1]);
        }
        return x;
    }

    // 1: No NOTES.
    private static void newObject() {
        FourStrings x = new FourStrings();
        for (int p = 0; p <= 2; p++) {
            due("1: notes", x.many(p), 0);
            due("1: of", x.of(p, 0, 0), NUMBER);
            due("1: stop", x.stop(p, 0, 80), STOP_NUMBER);
            due("1: no stop to end", x.stop(p, 0, -1), STOP_NUMBER);
            due("1: mark", x.mark(p, 0, 0), NUMBER);
            due("1: cut", x.cut(p), NONE);
            due("1: hold", x.hold(p, 0, 0), NUMBER);
            due("1: finger", x.finger(p, 0, 0), NUMBER);
            due("1: stroke", x.stroke(p, 0, 0), NUMBER);
            due("1: alike", x.alike(p, 0, (p + 1) % 3, 0), NUMBER);
            due("1: hard", x.hard(p), 0);
            due("1: shifts", x.shifts(p), 0);
            for (int first = 0; first <= 1; first++) {
                due("1: bow", x.bow(p, first), 0);
                for (int what = 0; what <= 2; what++) {
                    due("1: strokes", x.strokes(p, first, what), 0);
                }
            }
        }
        for (int what = 0; what <= 2; what++) {
            due("1: union", x.union(what), 0);
        }
        for (int what = 3; what <= 6; what++) {
            due("1: many", x.many(what), 0);
        }
        FourStrings y = some();
        due("1: another's notes are not its own", x.many(0) + x.many(1), 0);
        x.tune(0, 6);
        due("1: nor is the tuning", y.tune(0, 0), 0);
    }

    // 2: The open PITCH of a STRING: what it was. NUMBER: there is none such, or pitch isn't 0 to 60.
    private static void tune() {
        for (int s = 0; s <= 3; s++) {
            FourStrings x = new FourStrings();
            due("2: what it was", x.tune(s, 0), 7 * s);
            for (int pitch = 0; pitch <= 60; pitch++) {
                due("2: string " + s, x.tune(s, pitch), pitch == 0 ? 0 : pitch - 1);
            }
            for (int pitch : outside(0, 60)) {
                due("2: pitch " + pitch, x.tune(s, pitch), NUMBER);
                due("2: as before", x.tune(s, 60), 60);
            }
            for (int t = 0; t <= 3; t++) {
                due("2: the others are as before", x.tune(t, 0), t == s ? 60 : 7 * t);
            }
        }
        FourStrings y = new FourStrings();
        for (int s : outside(0, 3)) {
            due("2: string " + s, y.tune(s, 30), NUMBER);
        }
        for (int s = 0; s <= 3; s++) {
            due("2: all are as before", y.tune(s, 0), 7 * s);
        }
    }

    // 2: the same PITCH again is no refusal, and answers what it was, 0 too.
    private static void tuneChangesFingerings() {
        FourStrings x = lone(18, 0);
        due("2: the same", x.tune(0, 0), 0);
        due("2: 18 can be had", x.hard(0), 1);
        due("2: up", x.tune(0, 1), 0);
        due("2: 17 above", x.hard(0), 0);
        due("2: as high as the note", x.tune(0, 18), 1);
        due("2: open", x.finger(0, 0, 2), 0);
        due("2: higher than the note", x.tune(0, 19), 18);
        due("2: none", x.hard(0), NONE);
        due("2: refused", x.tune(0, 61), NUMBER);
        due("2: none still", x.hard(0), NONE);
        due("2: what it was", x.tune(0, 0), 19);
        due("2: 18 again", x.hard(0), 1);
    }

    // 3: A NOTE comes to a PART: its number. NUMBER: there is no such PART, pitch isn't 0 to 80,
    // length not 1 to 16, or marks not 0 to 15.
    private static void note() {
        for (int p = 0; p <= 2; p++) {
            FourStrings x = new FourStrings();
            due("3: least", x.note(p, 0, 1, 0), 0);
            due("3: greatest", x.note(p, 80, 16, 14), 1);
            due("3: greatest without a slur", x.note(p, 80, 16, 13), 2);
            for (int pitch : outside(0, 80)) {
                due("3: pitch " + pitch, x.note(p, pitch, 1, 0), NUMBER);
            }
            for (int length : outside(1, 16)) {
                due("3: length " + length, x.note(p, 0, length, 0), NUMBER);
            }
            for (int marks : outside(0, 15)) {
                due("3: marks " + marks, x.note(p, 0, 1, marks), NUMBER);
            }
            due("3: nothing more came", x.many(p), 3);
            due("3: the next number", x.note(p, 40, 8, 0), 3);
        }
        FourStrings y = some();
        for (int p : NO_PARTS) {
            due("3: part " + p, y.note(p, 0, 1, 0), NUMBER);
        }
        due("3: three", y.many(0), 3);
        due("3: one", y.many(1), 1);
        due("3: none", y.many(2), 0);
    }

    // 3: NUMBER ..; MARKS; FULL, and of several the first one named.
    private static void noteRefusedOnSeveralGrounds() {
        FourStrings x = new FourStrings();
        due("3: MARKS of the first", x.note(0, 0, 1, 2), MARKS);
        due("3: NUMBER (part) and MARKS", x.note(3, 0, 1, 3), NUMBER);
        due("3: NUMBER (pitch) and MARKS", x.note(0, 81, 1, 2), NUMBER);
        due("3: NUMBER (length) and MARKS", x.note(0, 0, 17, 2), NUMBER);
        due("3: NUMBER (marks) and MARKS", x.note(0, 0, 1, 18), NUMBER);
        due("3: all bits", x.note(0, 0, 1, -1), NUMBER);
        for (int n = 0; n < 12; n++) {
            due("3: there is room", x.note(0, n, 1, 0), n);
        }
        due("3: FULL", x.note(0, 0, 1, 0), FULL);
        due("3: FULL, with marks that can be", x.note(0, 0, 1, 14), FULL);
        due("3: MARKS and FULL", x.note(0, 0, 1, 3), MARKS);
        due("3: NUMBER (pitch) and FULL", x.note(0, -1, 1, 0), NUMBER);
        due("3: NUMBER (length) and FULL", x.note(0, 0, 0, 0), NUMBER);
        due("3: NUMBER (marks) and FULL", x.note(0, 0, 1, 16), NUMBER);
        due("3: NUMBER, MARKS and FULL", x.note(0, 81, 1, 3), NUMBER);
        due("3: twelve", x.many(0), 12);
        due("3: as they were", x.of(0, 11, 0), 11);
        due("3: MARKS of the first in another part", x.note(1, 0, 1, 2), MARKS);
    }

    // 4: The second PITCH of a NOTE (-1: it is no DOUBLE stop any more): what it was (-1: it was none).
    private static void stop() {
        FourStrings x = some();
        due("4: -1 is no refusal", x.stop(0, 1, 10), -1);
        due("4: it is there", x.of(0, 1, 3), 10);
        due("4: what it was", x.stop(0, 1, 80), 10);
        due("4: no more", x.stop(0, 1, -1), 80);
        due("4: nor before", x.stop(0, 1, -1), -1);
        due("4: none", x.of(0, 1, 3), NONE);
        due("4: the other one is as before", x.of(0, 0, 3), 13);
        due("4: how many", x.many(4), 1);
        FourStrings y = lone(1, 0);
        due("4: can be had", y.hard(0), 0);
        y.stop(0, 0, 2);
        due("4: can't be had", y.hard(0), NONE);
        y.stop(0, 0, -1);
        due("4: can be had again", y.hard(0), 0);
    }

    // 4: NUMBER is answered as -9: there is no such PART, NOTE, or pitch isn't -1, nor above its first
    // one to 80.
    private static void stopRefuses() {
        FourStrings x = some();
        for (int p : NO_PARTS) {
            due("4: part " + p, x.stop(p, 0, 80), STOP_NUMBER);
            due("4: part, to end " + p, x.stop(p, 0, -1), STOP_NUMBER);
        }
        for (int n : outside(0, 2)) {
            due("4: note " + n, x.stop(0, n, 80), STOP_NUMBER);
            due("4: note, to end " + n, x.stop(0, n, -1), STOP_NUMBER);
        }
        due("4: part without notes", x.stop(2, 0, 80), STOP_NUMBER);
        due("4: a note of another part", x.stop(1, 1, 80), STOP_NUMBER);
        for (int pitch : new int[] {6, 5, 0, -2, STOP_NUMBER, 81, LEAST, GREATEST}) {
            due("4: pitch " + pitch, x.stop(0, 0, pitch), STOP_NUMBER);
            due("4: as before", x.of(0, 0, 3), 13);
        }
        due("4: least", x.stop(0, 0, 7), 13);
        due("4: it goes by the first one, not by what it was", x.stop(0, 0, 8), 7);
        due("4: greatest", x.stop(0, 0, 80), 8);
        FourStrings y = lone(0, 0, 80, 0, 79, 0);
        due("4: above 0", y.stop(0, 0, 0), STOP_NUMBER);
        due("4: 1 above 0", y.stop(0, 0, 1), -1);
        due("4: 80 above 80", y.stop(0, 1, 80), STOP_NUMBER);
        due("4: 80 above 79", y.stop(0, 2, 80), -1);
    }

    // 5: MARKS of a NOTE become others: what they were. NUMBER: there is no such PART, NOTE, or marks
    // aren't 0 to 15; MARKS.
    private static void mark() {
        FourStrings x = some();
        due("5: least", x.mark(0, 1, 0), 2);
        due("5: greatest that may be", x.mark(0, 1, 14), 0);
        due("5: what they were", x.mark(0, 1, 13), 14);
        due("5: the same", x.mark(0, 1, 13), 13);
        for (int marks : outside(0, 15)) {
            due("5: marks " + marks, x.mark(0, 1, marks), NUMBER);
            due("5: marks of the first " + marks, x.mark(0, 0, marks), NUMBER);
        }
        for (int p : NO_PARTS) {
            due("5: part " + p, x.mark(p, 0, 0), NUMBER);
            due("5: part and MARKS " + p, x.mark(p, 0, 3), NUMBER);
        }
        for (int n : outside(0, 2)) {
            due("5: note " + n, x.mark(0, n, 0), NUMBER);
            due("5: note and MARKS " + n, x.mark(0, n, 3), NUMBER);
        }
        due("5: part without notes", x.mark(2, 0, 0), NUMBER);
        due("5: part without notes, a slur", x.mark(2, 0, 2), NUMBER);
        due("5: MARKS of the first", x.mark(0, 0, 2), MARKS);
        due("5: MARKS with a rest", x.mark(0, 2, 3), MARKS);
        due("5: all of them", x.mark(0, 2, 15), MARKS);
        due("5: number ahead of MARKS", x.mark(0, 2, 19), NUMBER);
        due("5: as before, first", x.of(0, 0, 2), 0);
        due("5: as before, second", x.of(0, 1, 2), 13);
        due("5: as before, last", x.of(0, 2, 2), 5);
    }

    // 5: what the MARKS tell is worked out anew.
    private static void markChangesFingersAndBows() {
        FourStrings x = lone(1, 0, 18, 0);
        due("5: a shift", x.hard(0), 23);
        due("5: down and up", x.bow(0, 0), 0);
        x.mark(0, 1, 6);
        due("5: in a slur", x.hard(0), NONE);
        due("5: parted", x.bow(0, 1), 2);
        due("5: refused", x.mark(0, 1, 15), MARKS);
        due("5: in a slur still", x.hard(0), NONE);
        due("5: parted still", x.bow(0, 1), 2);
        x.mark(0, 1, 5);
        due("5: behind a rest", x.hard(0), 1);
        due("5: a hook there", x.bow(0, 0), 1);
    }

    // 6: The latest NOTE of a PART goes: how many there are. NUMBER: there is no such PART; NONE:
    // there are none.
    private static void cut() {
        FourStrings x = some();
        for (int p : NO_PARTS) {
            due("6: part " + p, x.cut(p), NUMBER);
        }
        due("6: none", x.cut(2), NONE);
        due("6: as before", x.many(0), 3);
        due("6: two", x.cut(0), 2);
        due("6: the other part", x.many(1), 1);
        due("6: one", x.cut(0), 1);
        due("6: it was the latest", x.of(0, 0, 3), 13);
        due("6: 0 is no refusal", x.cut(0), 0);
        due("6: none left", x.cut(0), NONE);
        due("6: none still", x.cut(0), NONE);
        due("6: how many", x.many(0), 0);
        due("6: hard without notes", x.hard(0), 0);
        FourStrings y = new FourStrings();
        for (int n = 0; n < 12; n++) {
            y.note(1, n, 1, 0);
        }
        for (int n = 11; n >= 0; n--) {
            due("6: of twelve", y.cut(1), n);
            due("6: the latest went", y.of(1, n, 0), NUMBER);
            due("6: the one ahead is there", n == 0 ? -2 : y.of(1, n - 1, 0), n == 0 ? -2 : n - 1);
        }
    }

    // 6: .. goes: what it asked of the bow goes with it, though the bow was worked out before.
    private static void cutChangesBows() {
        FourStrings x = lone(0, 0, 0, 0, 0, 6);
        due("6: up and parted, or hooked", x.bow(0, 0), 2);
        x.cut(0);
        due("6: up", x.bow(0, 0), 0);
        due("6: the last one goes up", x.stroke(0, 1, 0), 1);
        FourStrings y = lone(0, 0, 0, 4, 0, 4);
        due("6: two hooks", y.bow(0, 0), 6);
        y.cut(0);
        due("6: one hook", y.bow(0, 0), 3);
        due("6: one of the strokes", y.strokes(0, 0, 0), 1);
        y.cut(0);
        due("6: no hook", y.bow(0, 0), 0);
    }

    // 7: Of a NOTE: what = 0 PITCH .. 5 how many HOLDS. NUMBER: there is no such PART, NOTE, another
    // what.
    private static void of() {
        FourStrings x = some();
        int[] first = {6, 2, 0, 13, 0, 9};
        // 15 above string 1: five; 8 above string 2: eight; 1 above string 3: one
        int[] last = {22, 3, 5, NONE, 3, 14};
        for (int what = 0; what <= 5; what++) {
            due("7: first " + what, x.of(0, 0, what), first[what]);
            due("7: last " + what, x.of(0, 2, what), last[what]);
            for (int p : NO_PARTS) {
                due("7: part " + p, x.of(p, 0, what), NUMBER);
            }
            for (int n : outside(0, 2)) {
                due("7: note " + n, x.of(0, n, what), NUMBER);
            }
            due("7: part without notes", x.of(2, 0, what), NUMBER);
        }
        for (int what : outside(0, 5)) {
            due("7: what " + what, x.of(0, 0, what), NUMBER);
            due("7: what of the last " + what, x.of(0, 2, what), NUMBER);
        }
        FourStrings y = lone(80, 0, 19, 0, 18, 0);
        due("7: no holds", y.of(0, 0, 5), 0);
        due("7: none above the last", y.of(0, 1, 5), 0);
        due("7: the last", y.of(0, 2, 5), 1);
    }

    // 8: The NAME of HOLD i (from 0 on ..) of a NOTE. NUMBER: there is no such PART, NOTE; NONE: there
    // is none such.
    private static void hold() {
        FourStrings x = lone(2, 0, 19, 0);
        due("8: first", x.hold(0, 0, 0), 16);
        due("8: last", x.hold(0, 0, 1), 21);
        for (int i : outside(0, 1)) {
            due("8: none such " + i, x.hold(0, 0, i), NONE);
        }
        for (int i : new int[] {0, 1, -1, LEAST, GREATEST}) {
            due("8: no holds at all " + i, x.hold(0, 1, i), NONE);
            due("8: note 2, " + i, x.hold(0, 2, i), NUMBER);
            due("8: note -1, " + i, x.hold(0, -1, i), NUMBER);
            due("8: least note, " + i, x.hold(0, LEAST, i), NUMBER);
            due("8: greatest note, " + i, x.hold(0, GREATEST, i), NUMBER);
            due("8: part without notes, " + i, x.hold(1, 0, i), NUMBER);
            for (int p : NO_PARTS) {
                due("8: part " + p + ", " + i, x.hold(p, 0, i), NUMBER);
            }
        }
        due("8: 0 is a name", lone(0, 0).hold(0, 0, 0), 0);
    }

    // 8: by rising NAMES, like ones by that on the greater STRING: both like ones are there.
    private static void holdsWithLikeNames() {
        FourStrings x = some();
        int[] fifth = {14, 14, 18, 18, 23, 37, 42, 56, 61};
        for (int i = 0; i < fifth.length; i++) {
            due("8: fifth " + i, x.hold(0, 0, i), fifth[i]);
        }
        due("8: behind the last", x.hold(0, 0, fifth.length), NONE);
    }

    // 9: What THE FINGERING of a PART COSTS (0 without NOTES). NUMBER: there is no such PART; NONE.
    private static void hard() {
        FourStrings x = lone(1, 0, 18, 0);
        for (int p : NO_PARTS) {
            due("9: part " + p, x.hard(p), NUMBER);
        }
        due("9: part 0", x.hard(0), 23);
        due("9: part 1, without notes", x.hard(1), 0);
        due("9: part 2, without notes", x.hard(2), 0);
        x.note(2, 79, 1, 0);
        due("9: part 2", x.hard(2), NONE);
        due("9: the others are as before", x.hard(0), 23);
        FourStrings y = lone();
        for (int n = 0; n < 12; n++) {
            y.note(0, n % 2 == 0 ? 18 : 1, 1, 0);
        }
        due("9: the dearest twelve", y.hard(0), 11 * 22 + 6);
    }

    // 10: Of THE FINGERING of a PART, for a NOTE: what = 0 to 5. NUMBER: there is no such PART, NOTE,
    // another what; NONE: there is none.
    private static void finger() {
        FourStrings x = some();
        for (int what = 0; what <= 5; what++) {
            for (int p : NO_PARTS) {
                due("10: part " + p, x.finger(p, 0, what), NUMBER);
            }
            for (int n : outside(0, 2)) {
                due("10: note " + n, x.finger(0, n, what), NUMBER);
            }
            due("10: part without notes", x.finger(2, 0, what), NUMBER);
        }
        for (int what : outside(0, 5)) {
            due("10: what " + what, x.finger(0, 0, what), NUMBER);
        }
        FourStrings y = lone(18, 0, 80, 0);
        for (int what = 0; what <= 5; what++) {
            due("10: there is none", y.finger(0, 0, what), NONE);
            due("10: of the last one neither", y.finger(0, 1, what), NONE);
        }
        for (int what : outside(0, 5)) {
            due("10: NUMBER (what) ahead of NONE", y.finger(0, 0, what), NUMBER);
        }
        for (int n : outside(0, 1)) {
            due("10: NUMBER (note) ahead of NONE", y.finger(0, n, 0), NUMBER);
        }
        y.cut(0);
        int[] highest = {0, 12, 4, 1, NONE, NONE};
        for (int what = 0; what <= 5; what++) {
            due("10: highest " + what, y.finger(0, 0, what), highest[what]);
        }
    }

    // 10: 4 the FINGER on the greater STRING of a DOUBLE stop (NONE of others), 5 likewise: 0 of an
    // open one.
    private static void fingerOnTheGreaterString() {
        FourStrings x = lone();
        x.tune(2, 28);
        x.tune(3, 21);
        x.note(0, 21, 1, 0);
        due("10: no double stop, 4", x.finger(0, 0, 4), NONE);
        due("10: no double stop, 5", x.finger(0, 0, 5), NONE);
        x.stop(0, 0, 46);
        // 46 is 18 above string 2, beside the open string 3
        int[] all = {2, 12, 4, 1, 0, 0};
        for (int what = 0; what <= 5; what++) {
            due("10: greater open, " + what, x.finger(0, 0, what), all[what]);
        }
        x.stop(0, 0, -1);
        due("10: no double stop any more", x.finger(0, 0, 4), NONE);
    }

    // 11: NOTES but the first whose HAND is unlike that of the one ahead, neither being 0 (free ones,
    // and behind RESTS, too). NUMBER: there is no such PART; NONE.
    private static void shifts() {
        FourStrings x = lone(18, 0);
        for (int p : NO_PARTS) {
            due("11: part " + p, x.shifts(p), NUMBER);
        }
        due("11: one note", x.shifts(0), 0);
        due("11: without notes", x.shifts(1), 0);
        int[] marks = {0, 1, 8, 9, 10, 12};
        for (int n = 0; n < marks.length; n++) {
            x.note(0, n % 2 == 0 ? 1 : 18, 1, marks[n]);
            due("11: marks " + marks[n], x.shifts(0), n + 1);
        }
        x.note(0, 0, 1, 0);
        due("11: to hand 0", x.shifts(0), 6);
        x.note(0, 18, 1, 0);
        due("11: from hand 0", x.shifts(0), 6);
        x.note(0, 17, 1, 2);
        due("11: the same hand", x.shifts(0), 6);
        x.note(0, 19, 1, 0);
        due("11: none", x.shifts(0), NONE);
        x.cut(0);
        due("11: as before", x.shifts(0), 6);
    }

    // 12: What THE BOWING of a PART COSTS with a first direction. NUMBER: there is no such PART,
    // direction; NONE.
    private static void bow() {
        FourStrings x = lone(0, 4, 0, 4);
        for (int p : NO_PARTS) {
            due("12: part " + p, x.bow(p, 0), NUMBER);
            due("12: part and direction " + p, x.bow(p, 2), NUMBER);
        }
        for (int first : outside(0, 1)) {
            due("12: direction " + first, x.bow(0, first), NUMBER);
            due("12: direction without notes " + first, x.bow(2, first), NUMBER);
        }
        due("12: down", x.bow(0, 0), 3);
        due("12: up", x.bow(0, 1), NONE);
        due("12: without notes, up", x.bow(2, 1), 0);
    }

    // 13: The direction of a NOTE in THE BOWING. NUMBER: there is no such PART, NOTE, direction; NONE.
    private static void stroke() {
        FourStrings x = lone(0, 4, 0, 0, 0, 0);
        int[] down = {0, 1, 0};
        for (int n = 0; n <= 2; n++) {
            due("13: note " + n, x.stroke(0, n, 0), down[n]);
            due("13: none " + n, x.stroke(0, n, 1), NONE);
            for (int p : NO_PARTS) {
                due("13: part " + p, x.stroke(p, n, 0), NUMBER);
            }
            for (int first : outside(0, 1)) {
                due("13: direction " + first, x.stroke(0, n, first), NUMBER);
            }
        }
        for (int n : outside(0, 2)) {
            due("13: note " + n, x.stroke(0, n, 0), NUMBER);
            due("13: NUMBER (note) ahead of NONE " + n, x.stroke(0, n, 1), NUMBER);
        }
        due("13: without notes", x.stroke(1, 0, 0), NUMBER);
        due("13: without notes, up", x.stroke(1, 0, 1), NUMBER);
    }

    // 14: How many HOOKS (what = 0), PARTED slurs (1), STROKES (2). NUMBER: there is no such PART,
    // direction, another what; NONE.
    private static void strokes() {
        FourStrings x = lone(0, 4, 0, 4, 0, 2, 0, 4);
        // down, down (a hook), up (the slur is parted), down
        int[] counts = {1, 1, 4};
        for (int what = 0; what <= 2; what++) {
            due("14: what " + what, x.strokes(0, 0, what), counts[what]);
            due("14: none " + what, x.strokes(0, 1, what), NONE);
            due("14: without notes " + what, x.strokes(1, 0, what), 0);
            for (int p : NO_PARTS) {
                due("14: part " + p, x.strokes(p, 0, what), NUMBER);
            }
            for (int first : outside(0, 1)) {
                due("14: direction " + first, x.strokes(0, first, what), NUMBER);
            }
        }
        for (int what : outside(0, 2)) {
            due("14: what " + what, x.strokes(0, 0, what), NUMBER);
            due("14: NUMBER (what) ahead of NONE " + what, x.strokes(0, 1, what), NUMBER);
            due("14: what without notes " + what, x.strokes(1, 0, what), NUMBER);
        }
        FourStrings y = lone(0, 0);
        due("14: one note, no hook", y.strokes(0, 1, 0), 0);
        due("14: one note, none parted", y.strokes(0, 1, 1), 0);
        due("14: one note, one stroke", y.strokes(0, 1, 2), 1);
        y.note(0, 0, 1, 2);
        due("14: slurred, one stroke", y.strokes(0, 1, 2), 1);
        y.mark(0, 1, 6);
        due("14: parted, two strokes", y.strokes(0, 1, 2), 2);
        y.mark(0, 1, 5);
        due("14: a hook behind a rest is one", y.strokes(0, 0, 0), 1);
    }

    // 15: Whether two NOTES of two PARTS are ALIKE: 1, 0. NUMBER: there is no such PART (either), NOTE
    // (either), or the PARTS are the same.
    private static void alike() {
        FourStrings x = some();
        x.note(2, 0, 1, 0);
        due("15: alike", x.alike(0, 0, 1, 0), 1);
        due("15: the other way round", x.alike(1, 0, 0, 0), 1);
        due("15: 0 is no refusal", x.alike(0, 2, 2, 0), 0);
        for (int p : NO_PARTS) {
            due("15: part " + p, x.alike(p, 0, 1, 0), NUMBER);
            due("15: other " + p, x.alike(0, 0, p, 0), NUMBER);
            due("15: both " + p, x.alike(p, 0, p, 0), NUMBER);
        }
        for (int n : outside(0, 2)) {
            due("15: note " + n, x.alike(0, n, 1, 0), NUMBER);
            due("15: its " + n, x.alike(1, 0, 0, n), NUMBER);
        }
        due("15: a note that only the other one has", x.alike(0, 0, 1, 1), NUMBER);
        due("15: and the other way round", x.alike(1, 2, 0, 2), NUMBER);
        for (int n = 0; n <= 2; n++) {
            due("15: one part, note " + n, x.alike(0, n, 0, n), NUMBER);
            due("15: one part, notes 0 and " + n, x.alike(0, 0, 0, n), NUMBER);
        }
        x.cut(2);
        due("15: gone", x.alike(0, 0, 2, 0), NUMBER);
    }

    // 16: Of THE UNION: what = 0, 1, 2. NUMBER: another what.
    private static void union() {
        FourStrings x = new FourStrings();
        for (int p = 0; p <= 1; p++) {
            for (int n = 0; n <= 2; n++) {
                x.note(p, 0, 1, p == 0 ? 4 : 0);
            }
        }
        int[] all = {0, 10, 1};
        for (int what = 0; what <= 2; what++) {
            due("16: what " + what, x.union(what), all[what]);
        }
        for (int what : outside(0, 2)) {
            due("16: no what " + what, x.union(what), NUMBER);
            due("16: nor without notes " + what, new FourStrings().union(what), NUMBER);
        }
        // asking for a bowing with another first direction leaves the union as it is
        due("16: up", x.bow(1, 1), 0);
        due("16: as before", x.union(1), 10);
        due("16: up can't be", x.bow(0, 1), NONE);
        due("16: as before too", x.union(2), 1);
        for (int n = 0; n <= 2; n++) {
            x.cut(0);
            x.cut(1);
        }
        for (int what = 0; what <= 2; what++) {
            due("16: without notes again " + what, x.union(what), 0);
        }
    }

    // 17: How many: what = 0 to 6. NUMBER: another what.
    private static void many() {
        FourStrings x = some();
        int[] all = {3, 1, 0, 1, 1, 1, 0};
        for (int what = 0; what <= 6; what++) {
            due("17: what " + what, x.many(what), all[what]);
        }
        for (int what : outside(0, 6)) {
            due("17: no what " + what, x.many(what), NUMBER);
            due("17: nor without notes " + what, new FourStrings().many(what), NUMBER);
        }
        FourStrings y = new FourStrings();
        for (int p = 0; p <= 2; p++) {
            for (int n = 0; n < 12; n++) {
                y.note(p, 79, 1, n == 0 ? 0 : 2);
                y.stop(p, n, 80);
            }
        }
        int[] most = {12, 12, 12, 36, 36, 33, 3};
        for (int what = 0; what <= 6; what++) {
            due("17: as many as may be " + what, y.many(what), most[what]);
        }
    }

    public static void main(String[] args) {
        newObject();
        tune();
        tuneChangesFingerings();
        note();
        noteRefusedOnSeveralGrounds();
        stop();
        stopRefuses();
        mark();
        markChangesFingersAndBows();
        cut();
        cutChangesBows();
        of();
        hold();
        holdsWithLikeNames();
        hard();
        finger();
        fingerOnTheGreaterString();
        shifts();
        bow();
        stroke();
        strokes();
        alike();
        union();
        many();
        System.out.println(wrong == 0 ? "all answers are as due" : wrong + " answers are not as due");
        if (wrong != 0) {
            System.exit(1);
        }
    }
}
