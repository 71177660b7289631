/**
 * Each sentence of the document's beginning and 'Terms' that names a boundary case, one test for
 * each, on both sides of the bound. The sentence stands above its test.
 */
public final class TermsBoundsTest {
    private static final int NUMBER = -1;
    private static final int FULL = -2;
    private static final int NONE = -3;
    private static final int MARKS = -4;
    private static final int STOP_NUMBER = -9;
    private static final int LEAST = Integer.MIN_VALUE;
    private static final int GREATEST = Integer.MAX_VALUE;

    private static int wrong = 0;

    private static void due(String what, int got, int want) {
        if (got != want) {
            wrong++;
            System.out.println(what + " answered " + got + ", due is " + want);
        }
    }

    private static FourStrings tuned(int... opens) {
        FourStrings x = new FourStrings();
        for (int s = 0; s < opens.length; s++) {
            x.tune(s, opens[s]);
        }
        return x;
    }

    /** Only string 0, open 0, is near enough for pitches below 60. */
    private static FourStrings lone() {
        return tuned(0, 60, 60, 60);
    }

    private static FourStrings with(FourStrings x, int part, int... pitchesAndMarks) {
        for (int i = 0; i + 1 < pitchesAndMarks.length; i += 2) {
            if (x.note(part, pitchesAndMarks[i], 1, pitchesAndMarks[i + 1]) < 0) {
                throw new IllegalStateException("the test makes no note " + i / 2);
            }
        }
        return x;
    }

    /** A double stop comes to part 0. */
    private static FourStrings pair(FourStrings x, int first, int second) {
        int note = x.note(0, first, 1, 0);
        if (note < 0 || x.stop(0, note, second) != -1) {
            throw new IllegalStateException("the test makes no double stop");
        }
        return x;
    }

    private static void holdsAre(String what, FourStrings x, int note, int... names) {
        due(what + ": how many", x.of(0, note, 5), names.length);
        for (int i = 0; i < names.length; i++) {
            due(what + ": hold " + i, x.hold(0, note, i), names[i]);
        }
        due(what + ": behind the last", x.hold(0, note, names.length), NONE);
        due(what + ": ahead of the first", x.hold(0, note, -1), NONE);
    }

    private static void fingerIs(String what, FourStrings x, int note, int... all) {
        for (int k = 0; k < all.length; k++) {
            due(what + ": " + k, x.finger(0, note, k), all[k]);
        }
    }

    private static void bowIs(String what, FourStrings x, int first, int cost, int... directions) {
        due(what + ": cost", x.bow(0, first), cost);
        for (int n = 0; n < directions.length; n++) {
            due(what + ": note " + n, x.stroke(0, n, first), directions[n]);
        }
    }

    private static void unionIs(String what, FourStrings x, int number, int sum, int unlike) {
        due(what + ": number", x.union(0), number);
        due(what + ": sum", x.union(1), sum);
        due(what + ": unlike", x.union(2), unlike);
    }

    // ---- the beginning

    // An object is used for at most 512 calls after it has been made.
    private static void theLastOf512Calls() {
        FourStrings x = lone();
        int calls = 4;
        for (int n = 0; n < 12; n++) {
            x.note(0, n % 2 == 0 ? 1 : 18, 16, 0);
            calls++;
        }
        while (calls < 511) {
            x.tune(0, calls % 2 == 0 ? 0 : 1);
            calls++;
        }
        // the 511th was tune(0, 0): eleven shifts from hand 1 to 12 and back, six extensions
        due("call 512", x.hard(0), 11 * 22 + 6);
    }

    // ---- 1

    // STRINGS 0 to 3 have each an open PITCH (0 to 60; 0, 7, 14, 21 at first).
    private static void strings() {
        FourStrings x = new FourStrings();
        int[] atFirst = {0, 7, 14, 21};
        for (int s = 0; s <= 3; s++) {
            due("open at first " + s, x.tune(s, 60), atFirst[s]);
            due("open 60 of " + s, x.tune(s, 0), 60);
            due("open 0 of " + s, x.tune(s, s), 0);
        }
        for (int s : new int[] {-1, 4, LEAST, GREATEST}) {
            due("no string " + s, x.tune(s, 0), NUMBER);
            due("no string, open 60 " + s, x.tune(s, 60), NUMBER);
        }
        for (int pitch : new int[] {-1, 61, LEAST, GREATEST}) {
            for (int s = 0; s <= 3; s++) {
                due("no open pitch " + pitch, x.tune(s, pitch), NUMBER);
                due("still as it was " + s, x.tune(s, s), s);
            }
        }
    }

    // PARTS are 0 to 2.
    private static void parts() {
        for (int p = 0; p <= 2; p++) {
            FourStrings x = new FourStrings();
            due("part " + p, x.note(p, 7, 1, 0), 0);
            for (int q = 0; q <= 2; q++) {
                due("notes of " + q, x.many(q), q == p ? 1 : 0);
                due("fingering of " + q, x.hard(q), 0);
                due("stroke of " + q, x.stroke(q, 0, 0), q == p ? 0 : NUMBER);
            }
        }
        for (int p : new int[] {-1, 3, LEAST, GREATEST}) {
            FourStrings x = new FourStrings();
            due("no part " + p, x.note(p, 7, 1, 0), NUMBER);
            for (int q = 0; q <= 2; q++) {
                due("nothing came to " + q, x.many(q), 0);
            }
        }
    }

    // A PART has NOTES, numbered from 0 as they come, 12 at most.
    private static void twelveNotes() {
        for (int p = 0; p <= 2; p++) {
            FourStrings x = new FourStrings();
            for (int n = 0; n < 12; n++) {
                due("note behind the last, ahead of its coming", x.of(p, n, 0), NUMBER);
                due("its number", x.note(p, n, 1, 0), n);
                due("its pitch", x.of(p, n, 0), n);
            }
            due("a thirteenth", x.note(p, 0, 1, 0), FULL);
            due("there is none", x.of(p, 12, 0), NUMBER);
            due("twelve", x.many(p), 12);
            due("the last is as it was", x.of(p, 11, 0), 11);
            due("another part has room", x.note((p + 1) % 3, 0, 1, 0), 0);
            due("one goes", x.cut(p), 11);
            due("one comes", x.note(p, 80, 2, 0), 11);
            due("full again", x.note(p, 0, 1, 0), FULL);
            due("the one that came", x.of(p, 11, 0), 80);
        }
    }

    // Each with a PITCH (0 to 80).
    private static void pitches() {
        FourStrings x = new FourStrings();
        for (int pitch : new int[] {-1, 81, LEAST, GREATEST}) {
            due("no pitch " + pitch, x.note(0, pitch, 1, 0), NUMBER);
        }
        for (int pitch = 0; pitch <= 80; pitch++) {
            due("pitch " + pitch, x.note(0, pitch, 1, 0), 0);
            due("is kept " + pitch, x.of(0, 0, 0), pitch);
            x.cut(0);
        }
    }

    // A LENGTH (1 to 16).
    private static void lengths() {
        FourStrings x = new FourStrings();
        for (int length : new int[] {0, -1, 17, LEAST, GREATEST}) {
            due("no length " + length, x.note(0, 7, length, 0), NUMBER);
        }
        for (int length = 1; length <= 16; length++) {
            due("length " + length, x.note(0, 7, length, 0), 0);
            due("is kept " + length, x.of(0, 0, 1), length);
            x.cut(0);
        }
    }

    // Perhaps a second, greater PITCH (a DOUBLE stop).
    private static void secondPitches() {
        for (int pitch : new int[] {0, 1, 40, 79}) {
            FourStrings x = with(new FourStrings(), 0, pitch, 0);
            due("none at first", x.of(0, 0, 3), NONE);
            due("not a double stop", x.many(4), 0);
            due("the same", x.stop(0, 0, pitch), STOP_NUMBER);
            due("81", x.stop(0, 0, 81), STOP_NUMBER);
            due("still none", x.of(0, 0, 3), NONE);
            due("one above", x.stop(0, 0, pitch + 1), -1);
            due("is kept", x.of(0, 0, 3), pitch + 1);
            due("a double stop", x.many(4), 1);
            due("80", x.stop(0, 0, 80), pitch + 1);
            due("is kept too", x.of(0, 0, 3), 80);
        }
        FourStrings y = with(new FourStrings(), 0, 80, 0);
        due("nothing is above 80", y.stop(0, 0, 81), STOP_NUMBER);
        due("nor 80 itself", y.stop(0, 0, 80), STOP_NUMBER);
        due("there was none", y.stop(0, 0, -1), -1);
    }

    // MARKS as bits: 1, 2, 4, 8.
    private static void allMarks() {
        for (int marks = 0; marks <= 15; marks++) {
            FourStrings x = with(new FourStrings(), 0, 0, 0, 0, 0);
            boolean mayBe = (marks & 3) != 3;
            due("later note, marks " + marks, x.note(0, 0, 1, marks), mayBe ? 2 : MARKS);
            due("later mark, marks " + marks, x.mark(0, 1, marks), mayBe ? 0 : MARKS);
            due("are kept", x.of(0, 1, 2), mayBe ? marks : 0);
            due("how many slurred", x.many(5), mayBe && (marks & 2) != 0 ? 2 : 0);
        }
        FourStrings x = with(new FourStrings(), 0, 0, 0, 0, 8);
        for (int marks : new int[] {-1, 16, LEAST, GREATEST, LEAST + 4, 16 + 4}) {
            due("no marks " + marks, x.note(0, 0, 1, marks), NUMBER);
            due("no marks for mark " + marks, x.mark(0, 1, marks), NUMBER);
            due("as they were", x.of(0, 1, 2), 8);
        }
    }

    // It is SLURRED from the one ahead (which there must be).
    private static void slurredFromTheOneAhead() {
        for (int marks = 0; marks <= 15; marks++) {
            FourStrings x = new FourStrings();
            boolean isSlurred = (marks & 2) != 0;
            due("first note, marks " + marks, x.note(2, 5, 1, marks), isSlurred ? MARKS : 0);
            due("how many", x.many(2), isSlurred ? 0 : 1);
            FourStrings y = with(new FourStrings(), 2, 5, 1);
            due("first mark, marks " + marks, y.mark(2, 0, marks), isSlurred ? MARKS : 1);
            due("its marks", y.of(2, 0, 2), isSlurred ? 1 : marks);
        }
        FourStrings z = with(new FourStrings(), 0, 5, 0, 5, 2);
        due("another part's note isn't ahead", z.note(1, 5, 1, 2), MARKS);
        z.cut(0);
        due("one is ahead", z.note(0, 5, 1, 2), 1);
        z.cut(0);
        z.cut(0);
        due("none is ahead any more", z.note(0, 5, 1, 2), MARKS);
    }

    // A REST can't be ahead then.
    private static void noRestAheadOfASlurredOne() {
        FourStrings x = with(new FourStrings(), 0, 5, 1, 5, 0);
        for (int marks : new int[] {3, 7, 11, 15}) {
            due("note, marks " + marks, x.note(0, 5, 1, marks), MARKS);
            due("mark, marks " + marks, x.mark(0, 1, marks), MARKS);
        }
        due("a rest ahead of the first one is no matter", x.mark(0, 1, 2), 0);
        due("slurred becomes behind a rest", x.mark(0, 1, 1), 2);
        due("and slurred again", x.mark(0, 1, 14), 1);
    }

    // A SHIFT to it is free, and may be in a slur.
    private static void freeShifts() {
        FourStrings x = with(lone(), 0, 1, 0, 17, 2);
        due("in a slur", x.hard(0), NONE);
        x.mark(0, 1, 10);
        due("free in a slur", x.hard(0), 0);
        x.mark(0, 1, 8);
        due("free", x.hard(0), 0);
        x.mark(0, 1, 0);
        // hand 11 with finger 4 high is nearer than hand 12 with finger 4 low
        due("neither", x.hard(0), 21);
        x.mark(0, 0, 8);
        due("it is the one to it, not the one from it", x.hard(0), 21);
    }

    // FINGER 0 (open: its PITCH is that).
    private static void openStrings() {
        for (int s = 0; s <= 3; s++) {
            int[] opens = {60, 60, 60, 60};
            opens[s] = 20;
            FourStrings x = with(tuned(opens), 0, 19, 0, 20, 0, 21, 0);
            holdsAre("below string " + s, x, 0);
            holdsAre("open string " + s, x, 1, 1000 * s);
            holdsAre("above string " + s, x, 2, 1000 * s + 11);
        }
        FourStrings all = with(tuned(60, 60, 60, 60), 0, 60, 0, 59, 0);
        holdsAre("four of them", all, 0, 0, 1000, 2000, 3000);
        holdsAre("below all four", all, 1);
    }

    // A STRING, a HAND H (1 to 12) and a FINGER 1 to 4, low or high: H and 0, 2, 4, 5, and 1 if high.
    private static void hands() {
        FourStrings x = with(lone(), 0, 1, 0, 2, 0, 3, 0, 6, 0, 7, 0, 8, 0, 12, 0, 13, 0, 16, 0, 17, 0, 18, 0, 19, 0);
        holdsAre("1 above", x, 0, 11);
        holdsAre("2 above", x, 1, 16, 21);
        holdsAre("3 above", x, 2, 12, 26, 31);
        holdsAre("6 above", x, 3, 14, 18, 23, 37, 42, 56, 61);
        holdsAre("7 above, the first with all", x, 4, 19, 24, 28, 33, 47, 52, 66, 71);
        holdsAre("8 above", x, 5, 29, 34, 38, 43, 57, 62, 76, 81);
        holdsAre("12 above, the last with all", x, 6, 69, 74, 78, 83, 97, 102, 116, 121);
        holdsAre("13 above", x, 7, 79, 84, 88, 93, 107, 112, 126);
        holdsAre("16 above", x, 8, 109, 114, 118, 123);
        holdsAre("17 above", x, 9, 119, 124, 128);
        holdsAre("18 above", x, 10, 129);
        holdsAre("19 above", x, 11);
    }

    // The highest open PITCH and the highest HOLD on it: nothing wraps around above.
    private static void highestHolds() {
        FourStrings x = with(tuned(0, 0, 0, 60), 0, 78, 0, 79, 0, 80, 0);
        holdsAre("78", x, 0, 3129);
        holdsAre("79", x, 1);
        holdsAre("80", x, 2);
        FourStrings y = with(tuned(60, 0, 0, 0), 0, 78, 0, 77, 0);
        holdsAre("78 on string 0", y, 0, 129);
        holdsAre("77 on string 0", y, 1, 119, 124, 128);
    }

    // On two STRINGS side by side (numbers one apart, either PITCH on either).
    private static void sideBySide() {
        for (int s = 0; s <= 3; s++) {
            for (int t = 0; t <= 3; t++) {
                int[] opens = {60, 60, 60, 60};
                opens[s] = 10;
                opens[t] = 30;
                if (s == t) {
                    continue;
                }
                FourStrings x = pair(tuned(opens), 10, 30);
                String what = "10 on " + s + ", 30 on " + t;
                if (Math.abs(s - t) == 1) {
                    holdsAre(what, x, 0, 1000 * Math.min(s, t));
                } else {
                    holdsAre(what, x, 0);
                }
            }
        }
        holdsAre("never both on one", pair(lone(), 1, 3), 0);
        holdsAre("either on either", pair(tuned(0, 0, 60, 60), 1, 3), 0, 11, 12);
        holdsAre("on the strings 1 and 2", pair(tuned(60, 0, 0, 60), 1, 3), 0, 1011, 1012);
        holdsAre("on the strings 2 and 3", pair(tuned(60, 60, 0, 0), 1, 3), 0, 2011, 2012);
        holdsAre("on three strings", pair(tuned(0, 0, 0, 60), 1, 3), 0, 11, 12, 1011, 1012);
        holdsAre("on all strings", pair(tuned(0, 0, 0, 0), 1, 3), 0, 11, 12, 1011, 1012, 2011, 2012);
    }

    // The most HOLDS that a NOTE can have are 51, seventeen on each two STRINGS side by side: nine with
    // both 6 above, and eight with one 12 above beside the open one.
    private static void theMostHolds() {
        int[] greaterStopped = {14, 14, 18, 18, 23, 37, 42, 56, 60, 61, 70, 70, 80, 90, 100, 110, 120};
        int[] greaterOpen = {14, 14, 18, 18, 23, 37, 42, 56, 61, 69, 74, 78, 83, 97, 102, 116, 121};
        int[] all = new int[51];
        for (int i = 0; i < 17; i++) {
            all[i] = greaterStopped[i];
            all[17 + i] = 1000 + greaterOpen[i];
            all[34 + i] = 2000 + greaterStopped[i];
        }
        FourStrings x = pair(tuned(6, 0, 6, 0), 6, 12);
        holdsAre("51", x, 0, all);
        FourStrings full = new FourStrings();
        for (int s = 0; s <= 3; s++) {
            full.tune(s, s % 2 == 0 ? 6 : 0);
        }
        for (int n = 0; n < 12; n++) {
            pair(full, 6, 12);
        }
        due("twelve notes of 51", full.hard(0), 0);
        due("the last has as many", full.of(0, 11, 5), 51);
        due("the last one's last", full.hold(0, 11, 50), 2120);
        due("and no more", full.hold(0, 11, 51), NONE);
    }

    // Where both FINGERS are above 0 they are of one HAND.
    private static void oneHand() {
        holdsAre("as wide as a hand", pair(tuned(0, 0, 60, 60), 1, 7), 0, 11, 19);
        holdsAre("one wider", pair(tuned(0, 0, 60, 60), 1, 8), 0);
        holdsAre("as wide in the last hand", pair(tuned(0, 0, 60, 60), 12, 18), 0, 121, 129);
        holdsAre("one higher", pair(tuned(0, 0, 60, 60), 13, 19), 0);
        holdsAre("an open one is of none", pair(tuned(0, 0, 60, 60), 0, 18), 0, 120, 129);
        holdsAre("an open one helps not above", pair(tuned(0, 0, 60, 60), 0, 19), 0);
    }

    // And unlike FINGERS, or the same one, both low or both high.
    private static void unlikeFingersOrTheSame() {
        holdsAre("finger 1 low and high", pair(tuned(0, 0, 60, 60), 1, 2), 0);
        holdsAre("fingers 1 and 2 low", pair(tuned(0, 0, 60, 60), 1, 3), 0, 11, 12);
        holdsAre("fingers 1 low and 2 high", pair(tuned(0, 0, 60, 60), 1, 4), 0, 11, 17);
        holdsAre("one finger, both low", pair(tuned(0, 7, 60, 60), 1, 8), 0, 11);
        holdsAre("one finger, both low or both high", pair(tuned(0, 7, 60, 60), 2, 9), 0, 16, 21);
        // 17 and 18 above: finger 4 low and high in hand 12 can't be, fingers 3 high and 4 high can
        holdsAre("fingers 3 and 4", pair(tuned(0, 7, 60, 60), 17, 25), 0, 128);
    }

    // Its HAND is that of those with a FINGER above 0 (0, if both are open), its STRING the lesser
    // one, its FINGER, and whether it is high, those of the lesser STRING.
    private static void handOfADoubleStop() {
        fingerIs("both open", pair(tuned(0, 7, 60, 60), 0, 7), 0, 0, 0, 0, 0, 0, 0);
        fingerIs("lesser open", pair(tuned(0, 7, 60, 60), 0, 25), 0, 0, 12, 0, 0, 4, 1);
        fingerIs("greater open", pair(tuned(7, 0, 60, 60), 0, 25), 0, 0, 12, 4, 1, 0, 0);
        fingerIs("none open", pair(tuned(60, 0, 7, 60), 18, 25), 0, 1, 12, 4, 1, 4, 1);
        fingerIs("unlike", pair(tuned(60, 60, 0, 0), 1, 4), 0, 2, 1, 1, 0, 2, 1);
    }

    // ---- 2

    // It COSTS for each NOTE 1 for each EXTENSION in it.
    private static void extensions() {
        due("none", with(lone(), 0, 17, 0).hard(0), 0);
        due("one", with(lone(), 0, 18, 0).hard(0), 1);
        due("one of two, lesser", pair(tuned(0, 60, 60, 60), 18, 60).hard(0), 1);
        due("one of two, greater", pair(tuned(60, 0, 60, 60), 18, 60).hard(0), 1);
        due("both", pair(tuned(0, 7, 60, 60), 18, 25).hard(0), 2);
        due("of the first and of the last", with(lone(), 0, 18, 0, 17, 0, 18, 0).hard(0), 2);
    }

    // For each but the first: the first NOTE has no SHIFT and no STRINGS ahead of it.
    private static void firstNoteCostsNoShift() {
        for (int marks : new int[] {0, 1, 4, 8, 13}) {
            FourStrings x = with(lone(), 0, 12, marks);
            due("first, marks " + marks, x.hard(0), 0);
            due("no shifts", x.shifts(0), 0);
            x.tune(3, 12);
            x.tune(0, 60);
            due("on string 3", x.hard(0), 0);
        }
    }

    // 1 for each STRING between its STRING and that of the one ahead (the sizes of their difference).
    private static void stringsBetween() {
        for (int s = 0; s <= 3; s++) {
            for (int t = 0; t <= 3; t++) {
                for (int marks : new int[] {0, 1, 2, 4, 8, 10}) {
                    FourStrings x = with(tuned(0, 20, 40, 60), 0, 20 * s, 0, 20 * t, marks);
                    due("from " + s + " to " + t + ", marks " + marks, x.hard(0), Math.abs(s - t));
                }
            }
        }
        FourStrings y = with(pair(tuned(0, 20, 40, 60), 40, 60), 0, 0, 0);
        due("of a double stop the lesser string", y.hard(0), 2);
    }

    // A SHIFT: twice the difference of the HANDS, if neither is 0 (0 if that is 0).
    private static void shiftCosts() {
        due("one hand", with(lone(), 0, 1, 0, 7, 0).hard(0), 1);
        due("hands 1 and 2", with(lone(), 0, 1, 0, 8, 0).hard(0), 3);
        due("hands 2 and 1", with(lone(), 0, 8, 0, 1, 0).hard(0), 3);
        due("hands 1 and 12", with(lone(), 0, 1, 0, 18, 0).hard(0), 23);
        due("hands 12 and 1", with(lone(), 0, 18, 0, 1, 0).hard(0), 23);
        due("hands 1 and 0", with(lone(), 0, 1, 0, 0, 0).hard(0), 0);
        due("hands 0 and 12", with(lone(), 0, 0, 0, 18, 0).hard(0), 1);
        due("hands 1, 0 and 12", with(lone(), 0, 1, 0, 0, 0, 18, 0).hard(0), 1);
        due("no shift in one hand", with(lone(), 0, 1, 0, 7, 0).shifts(0), 0);
        due("a shift to the next hand", with(lone(), 0, 1, 0, 8, 0).shifts(0), 1);
        due("none over an open string", with(lone(), 0, 1, 0, 0, 0, 18, 0).shifts(0), 0);
    }

    // 0 also if a REST is ahead of it, or its SHIFT is free.
    private static void shiftsThatCostNothing() {
        for (int marks = 0; marks <= 15; marks++) {
            if ((marks & 2) != 0) {
                continue;
            }
            FourStrings x = with(lone(), 0, 1, marks, 18, 0);
            due("marks of the one ahead " + marks, x.hard(0), 23);
            x.mark(0, 1, marks);
            due("marks " + marks, x.hard(0), (marks & 9) != 0 ? 1 : 23);
            due("still a shift " + marks, x.shifts(0), 1);
        }
    }

    // It MAY not be: a SHIFT with unlike HANDS, neither 0, within a slur, that isn't free.
    private static void noShiftWithinASlur() {
        due("like hands", with(lone(), 0, 1, 0, 7, 2).hard(0), 1);
        due("unlike hands", with(lone(), 0, 1, 0, 8, 2).hard(0), NONE);
        due("unlike hands, down", with(lone(), 0, 8, 0, 1, 2).hard(0), NONE);
        due("must be down is no matter", with(lone(), 0, 1, 0, 8, 6).hard(0), NONE);
        due("free", with(lone(), 0, 1, 0, 8, 10).hard(0), 0);
        due("open first", with(lone(), 0, 0, 0, 18, 2).hard(0), 1);
        due("open last", with(lone(), 0, 18, 0, 0, 2).hard(0), 1);
        due("before the slur", with(lone(), 0, 1, 0, 8, 0, 8, 2).hard(0), 4);
        due("a late one", with(lone(), 0, 1, 0, 3, 2, 5, 2, 8, 2).hard(0), NONE);
        // a dear way without a shift is better than none: 8 and 13 above in one hand
        due("the slur keeps to one hand", with(lone(), 0, 8, 0, 13, 2).hard(0), 0);
        due("as wide as a hand", with(lone(), 0, 8, 0, 14, 2).hard(0), 1);
        due("one wider", with(lone(), 0, 8, 0, 15, 2).hard(0), NONE);
    }

    // Of several it is the one in which the first NOTE for which they are unlike has the lesser NAME.
    private static void lesserNames() {
        // 22 and 41 cost 0; with 6 behind it hand 2 is 4 above (finger 3), hand 4 is 2 above (finger 2)
        FourStrings x = with(lone(), 0, 4, 0, 6, 0);
        due("both cost nothing", x.hard(0), 0);
        fingerIs("the first has the lesser name", x, 0, 0, 2, 2, 0);
        fingerIs("the second goes with it", x, 1, 0, 2, 3, 0);
        FourStrings y = with(tuned(5, 5, 5, 5), 0, 5, 0, 5, 0);
        fingerIs("string 0 of four", y, 0, 0, 0, 0, 0);
        fingerIs("string 0 again", y, 1, 0, 0, 0, 0);
        // the open string is named 1000, the stopped one 22: the lesser name, not the lesser hand
        fingerIs("stopped ahead of open", with(tuned(0, 4, 60, 60), 0, 4, 0), 0, 0, 2, 2, 0);
        fingerIs("open ahead of stopped", with(tuned(4, 0, 60, 60), 0, 4, 0), 0, 0, 0, 0, 0);
    }

    // There is none if some NOTE can't be had.
    private static void aNoteThatCanNotBeHad() {
        for (int at = 0; at < 12; at++) {
            FourStrings x = lone();
            for (int n = 0; n < 12; n++) {
                x.note(0, n == at ? 19 : 1, 1, 8);
            }
            due("note " + at + ": hard", x.hard(0), NONE);
            due("note " + at + ": shifts", x.shifts(0), NONE);
            due("note " + at + ": many", x.many(6), 1);
            for (int n = 0; n < 12; n++) {
                due("note " + at + ": finger of " + n, x.finger(0, n, 0), NONE);
            }
            x.tune(0, 1);
            due("note " + at + ": now it can be had", x.hard(0), 1);
            due("note " + at + ": none is without", x.many(6), 0);
        }
        FourStrings y = with(lone(), 0, 1, 0);
        y.stop(0, 0, 2);
        due("a double stop that can't be had", y.hard(0), NONE);
        y.stop(0, 0, 60);
        due("one that can", y.hard(0), 0);
    }

    // ---- 3

    // A NOTE begins a STROKE, the other direction than the one ahead, or the same (a HOOK, cost 3;
    // behind a REST 1).
    private static void hooks() {
        bowIs("the other", with(lone(), 0, 0, 0, 0, 0), 0, 0, 0, 1);
        bowIs("the other, from up", with(lone(), 0, 0, 0, 0, 0), 1, 0, 1, 0);
        bowIs("a hook", with(lone(), 0, 0, 0, 0, 4), 0, 3, 0, 0);
        bowIs("a hook behind a rest", with(lone(), 0, 0, 0, 0, 5), 0, 1, 0, 0);
        bowIs("a rest ahead of the one before", with(lone(), 0, 0, 1, 0, 4), 0, 3, 0, 0);
        bowIs("a rest asks for no hook", with(lone(), 0, 0, 0, 0, 1), 0, 0, 0, 1);
        bowIs("a free shift is no matter", with(lone(), 0, 0, 8, 0, 12), 0, 3, 0, 0);
    }

    // A SLURRED one goes on with the same, or the slur is PARTED: the other direction (cost 2).
    private static void partedSlurs() {
        bowIs("goes on", with(lone(), 0, 0, 0, 0, 2), 1, 0, 1, 1);
        bowIs("is parted", with(lone(), 0, 0, 0, 0, 6), 1, 2, 1, 0);
        bowIs("goes on down", with(lone(), 0, 0, 0, 0, 6), 0, 0, 0, 0);
        bowIs("is parted ahead of a note that must be down", with(lone(), 0, 0, 0, 0, 2, 0, 4), 0, 2, 0, 1, 0);
    }

    // A NOTE that must be DOWN is DOWN.
    private static void mustBeDown() {
        for (int at = 1; at < 12; at++) {
            for (int first = 0; first <= 1; first++) {
                FourStrings x = lone();
                for (int n = 0; n < 12; n++) {
                    x.note(0, 0, 1, n == at ? 4 : 0);
                }
                due("note " + at, x.stroke(0, at, first), 0);
                due("cost of note " + at, x.bow(0, first), (at + first) % 2 == 0 ? 0 : 3);
            }
        }
    }

    // THE BOWING COSTS least; of several it is the one in which the first NOTE for which they are
    // unlike is DOWN.
    private static void firstUnlikeIsDown() {
        // a hook at note 1 or at note 2, and from up at 2 or at 3: down as soon as can be
        bowIs("from down", with(lone(), 0, 0, 0, 0, 0, 0, 0, 0, 4), 0, 3, 0, 0, 1, 0);
        bowIs("from up", with(lone(), 0, 0, 0, 0, 0, 0, 0, 0, 0, 0, 4), 1, 3, 1, 0, 0, 1, 0);
        // parted at note 1 or at note 2
        bowIs("parted", with(lone(), 0, 0, 0, 0, 2, 0, 2, 0, 0, 0, 4), 1, 2, 1, 0, 0, 1, 0);
        bowIs("parted late", with(lone(), 0, 0, 0, 0, 2, 0, 2, 0, 4), 0, 2, 0, 0, 1, 0);
    }

    // There is none if the first NOTE must be DOWN, and is to be UP (a PART without NOTES has one, of
    // cost 0).
    private static void noBowing() {
        for (int p = 0; p <= 2; p++) {
            FourStrings x = new FourStrings();
            for (int first = 0; first <= 1; first++) {
                due("no notes, " + first, x.bow(p, first), 0);
                due("no strokes, " + first, x.strokes(p, first, 2), 0);
            }
            x.note(p, 0, 1, 4);
            due("down", x.bow(p, 0), 0);
            due("up", x.bow(p, 1), NONE);
            due("no stroke up", x.stroke(p, 0, 1), NONE);
            due("no strokes up", x.strokes(p, 1, 2), NONE);
            x.mark(p, 0, 11 - 2);
            due("need not be down any more", x.bow(p, 1), 0);
            x.mark(p, 0, 4);
            x.cut(p);
            due("gone", x.bow(p, 1), 0);
        }
    }

    // ONSET of a NOTE: the LENGTHS of those ahead of it in its PART, together (RESTS have none).
    private static void onsets() {
        FourStrings x = new FourStrings();
        int onset = 0;
        for (int n = 0; n < 12; n++) {
            x.note(0, 0, 1 + n, 1);
            x.note(1, 0, 16, 0);
            due("onset of " + n, x.of(0, n, 4), onset);
            due("greatest onset of " + n, x.of(1, n, 4), 16 * n);
            onset += 1 + n;
        }
        x.cut(0);
        x.cut(0);
        x.note(0, 0, 16, 0);
        x.note(0, 0, 1, 0);
        due("behind another one", x.of(0, 11, 4), 55 + 16);
    }

    // NOTES of two PARTS are ALIKE if their ONSETS and LENGTHS are.
    private static void alikeNotes() {
        FourStrings x = new FourStrings();
        x.note(0, 0, 1, 0);
        x.note(0, 0, 2, 0);
        x.note(1, 80, 1, 13);
        x.note(1, 80, 1, 1);
        x.note(1, 80, 2, 0);
        x.note(2, 0, 2, 0);
        due("onset 0 and length 1", x.alike(0, 0, 1, 0), 1);
        due("onset 1, lengths 2 and 1", x.alike(0, 1, 1, 1), 0);
        due("length 2, onsets 1 and 2", x.alike(0, 1, 1, 2), 0);
        due("onset 0, lengths 1 and 2", x.alike(0, 0, 2, 0), 0);
        due("one pair", x.many(3), 1);
    }

    // THE UNION: first directions for all PARTS for which there are BOWINGS .. the least number: 1 for
    // PART 0 UP, 2 for PART 1, 4 for PART 2, together.
    private static void unionNumbers() {
        for (int number = 0; number <= 7; number++) {
            FourStrings x = new FourStrings();
            for (int p = 0; p <= 2; p++) {
                // unlike lengths, so that none are alike; the second note down asks for an up first
                boolean isUp = (number >> p & 1) != 0;
                x.note(p, 0, 1 + p, isUp ? 0 : 4);
                x.note(p, 0, 1 + p, isUp ? 4 : 0);
            }
            unionIs("number " + number, x, number, 0, 0);
            for (int p = 0; p <= 2; p++) {
                x.mark(p, 0, 4);
            }
            int ups = Integer.bitCount(number);
            unionIs("none can be up, " + number, x, 0, 3 * ups, 0);
        }
        unionIs("no notes at all", new FourStrings(), 0, 0, 0);
        FourStrings y = with(with(with(new FourStrings(), 0, 0, 0), 1, 0, 0), 2, 0, 0);
        unionIs("all up is no better than all down", y, 0, 0, 0);
    }

    // The sum of their COSTS and 4 for each two ALIKE NOTES that go in unlike directions is least.
    private static void unlikeNotesCostFour() {
        FourStrings x = with(with(new FourStrings(), 0, 0, 4, 0, 4, 0, 4), 1, 0, 0, 0, 0, 0, 0);
        // two hooks; part 1 down: its second note goes up; part 1 up: its first and last do
        unionIs("one pair", x, 0, 6 + 4, 1);
        with(x, 2, 0, 0, 0, 0, 0, 0);
        unionIs("two pairs", x, 0, 6 + 8, 2);
        x.mark(0, 2, 0);
        // part 0: down, down, up. Parts 1 and 2 down: two pairs each; up: one pair each
        unionIs("both up", x, 6, 3 + 8, 2);
        x.mark(1, 0, 4);
        // part 1 is held down: two pairs with part 0. Part 2 up: one with part 0, three with part 1
        unionIs("both down", x, 0, 3 + 16, 4);
    }

    public static void main(String[] args) {
        theLastOf512Calls();
        strings();
        parts();
        twelveNotes();
        pitches();
        lengths();
        secondPitches();
        allMarks();
        slurredFromTheOneAhead();
        noRestAheadOfASlurredOne();
        freeShifts();
        openStrings();
        hands();
        highestHolds();
        sideBySide();
        theMostHolds();
        oneHand();
        unlikeFingersOrTheSame();
        handOfADoubleStop();
        extensions();
        firstNoteCostsNoShift();
        stringsBetween();
        shiftCosts();
        shiftsThatCostNothing();
        noShiftWithinASlur();
        lesserNames();
        aNoteThatCanNotBeHad();
        hooks();
        partedSlurs();
        mustBeDown();
        firstUnlikeIsDown();
        noBowing();
        onsets();
        alikeNotes();
        unionNumbers();
        unlikeNotesCostFour();
        System.out.println(wrong == 0 ? "all answers are as due" : wrong + " answers are not as due");
        if (wrong != 0) {
            System.exit(1);
        }
    }
}
