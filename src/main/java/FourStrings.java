/** A leader's desk that fingers and bows parts for strings. */
public final class FourStrings {
    /** A number is none, or none that may be. */
    public static final int NUMBER = -1;
    /** There are as many as may be. */
    public static final int FULL = -2;
    /** There is none. */
    public static final int NONE = -3;
    /** Marks can't be so. */
    public static final int MARKS = -4;

    /** How stop answers NUMBER: its -1 already means that there was no second pitch. */
    private static final int STOP_NUMBER = -9;

    private static final int STRINGS = 4;
    private static final int PARTS = 3;
    private static final int NOTES = 12;

    private static final int HIGHEST_OPEN = 60;
    private static final int HIGHEST_PITCH = 80;
    private static final int LONGEST = 16;
    private static final int ALL_MARKS = 15;
    private static final int NO_SECOND = -1;

    private static final int REST = 1;
    private static final int SLURRED = 2;
    private static final int MUST_BE_DOWN = 4;
    private static final int FREE_SHIFT = 8;

    private static final int DOWN = 0;
    private static final int UP = 1;

    private static final int UNLIKE_COST = 4;

    /** Far above every cost, and far from wrapping around when twelve are added. */
    private static final int NEVER = 1000000;

    private final int[] open;
    private final Part[] parts;
    private final Desk desk;

    public FourStrings() {
        open = new int[] {0, 7, 14, 21};
        parts = new Part[] {new Part(), new Part(), new Part()};
        desk = new Desk();
    }

    // ---- parts

    public int tune(int string, int pitch) {
        if (isOutside(string, 0, STRINGS - 1) || isOutside(pitch, 0, HIGHEST_OPEN)) {
            return NUMBER;
        }
        int was = open[string];
        open[string] = pitch;
        for (int p = 0; p < PARTS; p++) {
            parts[p].isFingered = false;
        }
        return was;
    }

    public int note(int part, int pitch, int length, int marks) {
        Part its = partAt(part);
        if (its == null || isOutside(pitch, 0, HIGHEST_PITCH) || isOutside(length, 1, LONGEST)
                || isOutside(marks, 0, ALL_MARKS)) {
            return NUMBER;
        }
        if (!marksMayBe(its.count, marks)) {
            return MARKS;
        }
        if (its.count >= NOTES) {
            return FULL;
        }
        its.append(pitch, length, marks);
        return its.count - 1;
    }

    public int stop(int part, int note, int pitch) {
        Part its = partWith(part, note);
        if (its == null) {
            return STOP_NUMBER;
        }
        if (pitch != NO_SECOND && isOutside(pitch, its.pitches[note] + 1, HIGHEST_PITCH)) {
            return STOP_NUMBER;
        }
        int was = its.seconds[note];
        its.seconds[note] = pitch;
        its.isFingered = false;
        return was;
    }

    public int mark(int part, int note, int marks) {
        Part its = partWith(part, note);
        if (its == null || isOutside(marks, 0, ALL_MARKS)) {
            return NUMBER;
        }
        if (!marksMayBe(note, marks)) {
            return MARKS;
        }
        int was = its.marks[note];
        its.marks[note] = marks;
        its.isFingered = false;
        return was;
    }

    public int cut(int part) {
        Part its = partAt(part);
        if (its == null) {
            return NUMBER;
        }
        if (its.count <= 0) {
            return NONE;
        }
        its.count--;
        its.isFingered = false;
        return its.count;
    }

    public int of(int part, int note, int what) {
        Part its = partWith(part, note);
        if (its == null) {
            return NUMBER;
        }
        switch (what) {
            case 0:
                return its.pitches[note];
            case 1:
                return its.lengths[note];
            case 2:
                return its.marks[note];
            case 3:
                return its.isDouble(note) ? its.seconds[note] : NONE;
            case 4:
                return its.onsets[note];
            case 5:
                return desk.listHolds(open, its, note);
            default:
                return NUMBER;
        }
    }

    // ---- hands

    public int hold(int part, int note, int i) {
        Part its = partWith(part, note);
        if (its == null) {
            return NUMBER;
        }
        int count = desk.listHolds(open, its, note);
        return isOutside(i, 0, count - 1) ? NONE : Key.name(desk.keyAt(note, i));
    }

    public int hard(int part) {
        Part its = partAt(part);
        if (its == null) {
            return NUMBER;
        }
        return hasFingering(its) ? its.fingeringCost : NONE;
    }

    public int finger(int part, int note, int what) {
        Part its = partWith(part, note);
        if (its == null || isOutside(what, 0, 5)) {
            return NUMBER;
        }
        if (!hasFingering(its)) {
            return NONE;
        }
        int key = its.fingering[note];
        switch (what) {
            case 0:
                return Key.string(key);
            case 1:
                return Key.hand(key);
            case 2:
                return Way.fingerOf(Key.way(key));
            case 3:
                return Way.extension(Key.way(key));
            case 4:
                return its.isDouble(note) ? Way.fingerOf(Key.greaterWay(key)) : NONE;
            default:
                return its.isDouble(note) ? Way.extension(Key.greaterWay(key)) : NONE;
        }
    }

    public int shifts(int part) {
        Part its = partAt(part);
        if (its == null) {
            return NUMBER;
        }
        if (!hasFingering(its)) {
            return NONE;
        }
        int count = 0;
        for (int n = 1; n < its.count; n++) {
            if (Key.shift(its.fingering[n - 1], its.fingering[n]) != 0) {
                count++;
            }
        }
        return count;
    }

    // ---- bows

    public int bow(int part, int first) {
        Part its = partAt(part);
        if (its == null || isOutside(first, DOWN, UP)) {
            return NUMBER;
        }
        Bowing bowing = its.bowingFrom(first);
        bowing.work(its, first);
        return bowing.isThere() ? bowing.cost : NONE;
    }

    public int stroke(int part, int note, int first) {
        Part its = partWith(part, note);
        if (its == null || isOutside(first, DOWN, UP)) {
            return NUMBER;
        }
        Bowing bowing = its.bowingFrom(first);
        bowing.work(its, first);
        return bowing.isThere() ? bowing.directions[note] : NONE;
    }

    public int strokes(int part, int first, int what) {
        Part its = partAt(part);
        if (its == null || isOutside(first, DOWN, UP) || isOutside(what, 0, 2)) {
            return NUMBER;
        }
        Bowing bowing = its.bowingFrom(first);
        bowing.work(its, first);
        if (!bowing.isThere()) {
            return NONE;
        }
        if (what == 0) {
            return bowing.countHooks(its);
        }
        int parted = bowing.countParted(its);
        return what == 1 ? parted : parted + its.count - its.countSlurred();
    }

    public int alike(int part, int note, int other, int its) {
        Part one = partWith(part, note);
        Part two = partWith(other, its);
        if (one == null || two == null || part == other) {
            return NUMBER;
        }
        return areAlike(one, note, two, its) ? 1 : 0;
    }

    public int union(int what) {
        if (isOutside(what, 0, 2)) {
            return NUMBER;
        }
        workAllBowings();
        int number = leastUnion();
        if (what == 0) {
            return number;
        }
        return what == 1 ? unionSum(number) : countUnlike(number);
    }

    public int many(int what) {
        switch (what) {
            case 0:
            case 1:
            case 2:
                return parts[what].count;
            case 3:
                return countAlike();
            case 4:
                return countDoubles();
            case 5:
                return countSlurred();
            case 6:
                return countWithoutFingering();
            default:
                return NUMBER;
        }
    }

    // ---- what the calls share

    private static boolean isOutside(int number, int least, int most) {
        return number < least || number > most;
    }

    private static boolean marksMayBe(int note, int marks) {
        boolean isSlurred = (marks & SLURRED) != 0;
        boolean isBehindRest = (marks & REST) != 0;
        return !isSlurred || (note > 0 && !isBehindRest);
    }

    private Part partAt(int part) {
        return isOutside(part, 0, PARTS - 1) ? null : parts[part];
    }

    /** The part, if it is one and has that note; else null. */
    private Part partWith(int part, int note) {
        Part its = partAt(part);
        return its == null || isOutside(note, 0, its.count - 1) ? null : its;
    }

    private boolean hasFingering(Part its) {
        if (!its.isFingered) {
            its.fingeringCost = desk.findFingering(open, its);
            its.isFingered = true;
        }
        return its.fingeringCost < NEVER;
    }

    private static boolean areAlike(Part one, int note, Part two, int other) {
        return one.onsets[note] == two.onsets[other] && one.lengths[note] == two.lengths[other];
    }

    private void workAllBowings() {
        for (int p = 0; p < PARTS; p++) {
            parts[p].down.work(parts[p], DOWN);
            parts[p].up.work(parts[p], UP);
        }
    }

    /** The bowings must have been worked out. */
    private int leastUnion() {
        int least = 0;
        int leastSum = unionSum(0);
        for (int number = 1; number < 1 << PARTS; number++) {
            int sum = unionSum(number);
            if (sum < leastSum) {
                least = number;
                leastSum = sum;
            }
        }
        return least;
    }

    /** At least NEVER where a part has no bowing with its first direction. */
    private int unionSum(int number) {
        int sum = 0;
        for (int p = 0; p < PARTS; p++) {
            sum += unionBowing(number, p).cost;
        }
        return sum >= NEVER ? NEVER : sum + UNLIKE_COST * countUnlike(number);
    }

    private Bowing unionBowing(int number, int part) {
        return parts[part].bowingFrom(number >> part & 1);
    }

    private int countUnlike(int number) {
        int count = 0;
        for (int p = 0; p < PARTS; p++) {
            for (int q = p + 1; q < PARTS; q++) {
                int[] ones = unionBowing(number, p).directions;
                int[] others = unionBowing(number, q).directions;
                count += countUnlikeOfTwo(parts[p], ones, parts[q], others);
            }
        }
        return count;
    }

    private static int countUnlikeOfTwo(Part one, int[] ones, Part two, int[] others) {
        int count = 0;
        for (int n = 0; n < one.count; n++) {
            for (int m = 0; m < two.count; m++) {
                if (areAlike(one, n, two, m) && ones[n] != others[m]) {
                    count++;
                }
            }
        }
        return count;
    }

    private int countAlike() {
        int count = 0;
        for (int p = 0; p < PARTS; p++) {
            for (int q = p + 1; q < PARTS; q++) {
                count += countAlikeOfTwo(parts[p], parts[q]);
            }
        }
        return count;
    }

    private static int countAlikeOfTwo(Part one, Part two) {
        int count = 0;
        for (int n = 0; n < one.count; n++) {
            for (int m = 0; m < two.count; m++) {
                if (areAlike(one, n, two, m)) {
                    count++;
                }
            }
        }
        return count;
    }

    private int countDoubles() {
        int count = 0;
        for (int p = 0; p < PARTS; p++) {
            count += parts[p].countDoubles();
        }
        return count;
    }

    private int countSlurred() {
        int count = 0;
        for (int p = 0; p < PARTS; p++) {
            count += parts[p].countSlurred();
        }
        return count;
    }

    private int countWithoutFingering() {
        int count = 0;
        for (int p = 0; p < PARTS; p++) {
            if (!hasFingering(parts[p])) {
                count++;
            }
        }
        return count;
    }

    /** The notes of a part, its bowings, and its fingering as long as nothing changes it. */
    private static final class Part {
        int count;
        final int[] pitches;
        final int[] seconds;
        final int[] lengths;
        final int[] onsets;
        final int[] marks;
        /** The key of each note's hold in THE FINGERING, if isFingered and there is one. */
        final int[] fingering;
        /** NEVER if there is no fingering. */
        int fingeringCost;
        boolean isFingered;
        final Bowing down;
        final Bowing up;

        Part() {
            pitches = new int[NOTES];
            seconds = new int[NOTES];
            lengths = new int[NOTES];
            onsets = new int[NOTES];
            marks = new int[NOTES];
            fingering = new int[NOTES];
            down = new Bowing();
            up = new Bowing();
        }

        void append(int pitch, int length, int itsMarks) {
            if (count < 0 || count >= NOTES) {
                return;
            }
            pitches[count] = pitch;
            seconds[count] = NO_SECOND;
            lengths[count] = length;
            // Lengths never change and only the latest note goes, so an onset stays as it is.
            onsets[count] = count == 0 ? 0 : onsets[count - 1] + lengths[count - 1];
            marks[count] = itsMarks;
            count++;
            isFingered = false;
        }

        boolean isDouble(int note) {
            return seconds[note] != NO_SECOND;
        }

        boolean isMarked(int note, int mark) {
            return (marks[note] & mark) != 0;
        }

        Bowing bowingFrom(int first) {
            return first == DOWN ? down : up;
        }

        int countSlurred() {
            int slurred = 0;
            for (int n = 0; n < count; n++) {
                if (isMarked(n, SLURRED)) {
                    slurred++;
                }
            }
            return slurred;
        }

        int countDoubles() {
            int doubles = 0;
            for (int n = 0; n < count; n++) {
                if (isDouble(n)) {
                    doubles++;
                }
            }
            return doubles;
        }
    }

    /**
     * How a finger stands on a string, as the last digit of a name: the finger, and 5 more if it is
     * high. 5 itself would be an open string that is high, which there is not.
     */
    private static final class Way {
        static final int OPEN = 0;
        static final int LIMIT = 10;
        private static final int HIGH = 5;
        private static final int HANDS = 12;
        /** By ways: how far above its hand the finger stands; 0 where there is no such way. */
        private static final int[] STEPS = {0, 0, 2, 4, 5, 0, 1, 3, 5, 6};

        static int fingerOf(int way) {
            return way % HIGH;
        }

        static int extension(int way) {
            return way / HIGH;
        }

        /** The hand that has a pitch this high above the open one; 0 for open, -1 if none has. */
        static int hand(int way, int height) {
            if (way == OPEN) {
                return height == 0 ? 0 : -1;
            }
            if (way < 1 || way >= LIMIT || way == HIGH) {
                return -1;
            }
            int hand = height - STEPS[way];
            return hand < 1 || hand > HANDS ? -1 : hand;
        }

        /** Whether one hand can take both at once. */
        static boolean goTogether(int way, int hand, int otherWay, int otherHand) {
            if (way == OPEN || otherWay == OPEN) {
                return true;
            }
            return hand == otherHand && (way == otherWay || way % HIGH != otherWay % HIGH);
        }
    }

    /**
     * A hold in one number: its name, and behind it a digit for the way on the greater string (0 if
     * the note is no double stop). Holds with like names have like hands, so keys rise as the
     * document's order does.
     */
    private static final class Key {
        static int make(int string, int hand, int way, int greaterWay) {
            return (1000 * string + 10 * hand + way) * 10 + greaterWay;
        }

        static int name(int key) {
            return key / 10;
        }

        static int string(int key) {
            return key / 10000;
        }

        static int hand(int key) {
            return key / 100 % 100;
        }

        static int way(int key) {
            return key / 10 % 10;
        }

        static int greaterWay(int key) {
            return key % 10;
        }

        static int extensions(int key) {
            return Way.extension(way(key)) + Way.extension(greaterWay(key));
        }

        /** How far the hand goes from one hold to another; 0 also where one of them needs none. */
        static int shift(int before, int key) {
            int from = before / 100 % 100;
            int to = key / 100 % 100;
            return from == 0 || to == 0 ? 0 : Math.abs(to - from);
        }
    }

    /** Works out holds and fingerings, in rows that are used again for every part. */
    private static final class Desk {
        /** Six ways to lay two pitches on two strings, and at most ten pairs of fingers for each. */
        private static final int HOLDS = 60;

        private final int[][] keys;
        private final int[] counts;
        /** For each hold the least cost of its note and all behind it. */
        private final int[][] costs;

        Desk() {
            keys = new int[NOTES][HOLDS];
            counts = new int[NOTES];
            costs = new int[NOTES][HOLDS];
        }

        int keyAt(int note, int i) {
            return keys[note][i];
        }

        /** Lists the keys of a note's holds, rising: how many there are. */
        int listHolds(int[] open, Part part, int note) {
            counts[note] = 0;
            if (part.isDouble(note)) {
                for (int s = 0; s + 1 < STRINGS; s++) {
                    listPairs(note, s, part.pitches[note] - open[s], part.seconds[note] - open[s + 1]);
                    listPairs(note, s, part.seconds[note] - open[s], part.pitches[note] - open[s + 1]);
                }
            } else {
                for (int s = 0; s < STRINGS; s++) {
                    listSingles(note, s, part.pitches[note] - open[s]);
                }
            }
            return counts[note];
        }

        private void listSingles(int note, int string, int height) {
            for (int way = 0; way < Way.LIMIT; way++) {
                int hand = Way.hand(way, height);
                if (hand >= 0) {
                    insert(note, Key.make(string, hand, way, 0));
                }
            }
        }

        /** The holds on a string and the next one, for heights above their open pitches. */
        private void listPairs(int note, int string, int height, int greaterHeight) {
            for (int way = 0; way < Way.LIMIT; way++) {
                int hand = Way.hand(way, height);
                for (int other = 0; hand >= 0 && other < Way.LIMIT; other++) {
                    int otherHand = Way.hand(other, greaterHeight);
                    if (otherHand >= 0 && Way.goTogether(way, hand, other, otherHand)) {
                        insert(note, Key.make(string, Math.max(hand, otherHand), way, other));
                    }
                }
            }
        }

        private void insert(int note, int key) {
            int[] row = keys[note];
            int at = counts[note];
            if (at >= HOLDS) {
                return;
            }
            while (at > 0 && row[at - 1] > key) {
                row[at] = row[at - 1];
                at--;
            }
            row[at] = key;
            counts[note]++;
        }

        /** Puts THE FINGERING into the part: what it costs, or NEVER if there is none. */
        int findFingering(int[] open, Part part) {
            if (part.count <= 0) {
                return 0;
            }
            for (int n = part.count - 1; n >= 0; n--) {
                listHolds(open, part, n);
                for (int i = 0; i < counts[n]; i++) {
                    costs[n][i] = costFrom(part, n, keys[n][i]);
                }
            }
            int first = leastFirst();
            if (first < 0) {
                return NEVER;
            }
            part.fingering[0] = keys[0][first];
            for (int n = 1; n < part.count; n++) {
                part.fingering[n] = leastNext(part, n, part.fingering[n - 1]);
            }
            return costs[0][first];
        }

        /** What a hold of a note and all behind it cost at least; those behind must be reckoned. */
        private int costFrom(Part part, int note, int key) {
            int next = note + 1;
            int behind = 0;
            if (next < part.count) {
                behind = NEVER;
                for (int i = 0; i < counts[next]; i++) {
                    behind = Math.min(behind, costs[next][i] + stepCost(key, keys[next][i], part.marks[next]));
                }
            }
            return Math.min(NEVER, behind + Key.extensions(key));
        }

        private static int stepCost(int before, int key, int marks) {
            int strings = Math.abs(Key.string(key) - Key.string(before));
            int hands = Key.shift(before, key);
            if (hands == 0 || (marks & (REST | FREE_SHIFT)) != 0) {
                return strings;
            }
            return (marks & SLURRED) != 0 ? NEVER : strings + 2 * hands;
        }

        /** Of equal costs the first one, whose key is the least; -1 if no hold can begin. */
        private int leastFirst() {
            int least = NEVER;
            int first = -1;
            for (int i = 0; i < counts[0]; i++) {
                if (costs[0][i] < least) {
                    least = costs[0][i];
                    first = i;
                }
            }
            return first;
        }

        /** The key of the hold that goes on best behind another; of equal costs the least key. */
        private int leastNext(Part part, int note, int before) {
            int least = NEVER;
            int key = 0;
            for (int i = 0; i < counts[note]; i++) {
                int cost = costs[note][i] + stepCost(before, keys[note][i], part.marks[note]);
                if (cost < least) {
                    least = cost;
                    key = keys[note][i];
                }
            }
            return key;
        }
    }

    /** THE BOWING of a part with one first direction, once worked out. */
    private static final class Bowing {
        private static final int HOOK_COST = 3;
        private static final int HOOK_BEHIND_REST_COST = 1;
        private static final int PARTED_COST = 2;

        /** NEVER if there is no bowing. */
        int cost;
        final int[] directions;
        /** What all behind a note cost least if it goes down, and if it goes up. */
        private final int[] behindDown;
        private final int[] behindUp;

        Bowing() {
            directions = new int[NOTES];
            behindDown = new int[NOTES];
            behindUp = new int[NOTES];
        }

        boolean isThere() {
            return cost < NEVER;
        }

        void work(Part part, int first) {
            cost = 0;
            if (part.count <= 0) {
                return;
            }
            if (first == UP && part.isMarked(0, MUST_BE_DOWN)) {
                cost = NEVER;
                return;
            }
            reckonBehind(part);
            cost = first == DOWN ? behindDown[0] : behindUp[0];
            follow(part, first);
        }

        private void reckonBehind(Part part) {
            int last = part.count - 1;
            behindDown[last] = 0;
            behindUp[last] = 0;
            for (int n = last; n > 0; n--) {
                behindDown[n - 1] = Math.min(costFrom(part, n, DOWN, DOWN), costFrom(part, n, DOWN, UP));
                behindUp[n - 1] = Math.min(costFrom(part, n, UP, DOWN), costFrom(part, n, UP, UP));
            }
        }

        private void follow(Part part, int first) {
            directions[0] = first;
            for (int n = 1; n < part.count; n++) {
                int before = directions[n - 1];
                boolean goesDown = costFrom(part, n, before, DOWN) <= costFrom(part, n, before, UP);
                directions[n] = goesDown ? DOWN : UP;
            }
        }

        /** What a note in a direction and all behind it cost, if the one ahead goes as before. */
        private int costFrom(Part part, int note, int before, int direction) {
            if (direction == DOWN) {
                return behindDown[note] + turnCost(part, note, before == DOWN);
            }
            if (part.isMarked(note, MUST_BE_DOWN)) {
                return NEVER;
            }
            return behindUp[note] + turnCost(part, note, before == UP);
        }

        private static int turnCost(Part part, int note, boolean isSame) {
            if (part.isMarked(note, SLURRED)) {
                return isSame ? 0 : PARTED_COST;
            }
            if (!isSame) {
                return 0;
            }
            return part.isMarked(note, REST) ? HOOK_BEHIND_REST_COST : HOOK_COST;
        }

        int countHooks(Part part) {
            int hooks = 0;
            for (int n = 1; n < part.count; n++) {
                if (!part.isMarked(n, SLURRED) && directions[n] == directions[n - 1]) {
                    hooks++;
                }
            }
            return hooks;
        }

        int countParted(Part part) {
            int parted = 0;
            for (int n = 1; n < part.count; n++) {
                if (part.isMarked(n, SLURRED) && directions[n] != directions[n - 1]) {
                    parted++;
                }
            }
            return parted;
        }
    }
}
