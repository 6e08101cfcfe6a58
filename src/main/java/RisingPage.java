/**
 * A page out of which parts rise, seen from the spine's end: two leaves that open by steps, and
 * bends, boxes and straps hung on earlier planes. The document's words are kept as names: a PLANE
 * is a flat or a leaf, a HINGE is where a PART hangs, a CREASE is where its two flats meet.
 */
public final class RisingPage {
    private static final int NOBODY = -1;
    private static final int OTHER = -2;
    private static final int STATE = -3;
    private static final int BELOW = -4;
    private static final int ROOM = -6;
    private static final int GRANTED = 0;
    private static final int NONE = -9;
    private static final int REFUSAL_ROWS = 7;
    /** Stands for a place that is STUCK; refusals are told as this less their number where answers may be below 0. */
    private static final int APART = 1000000000;

    private static final int STEPS = 17;
    private static final int SHUT = 0;
    private static final int UPRIGHT = 8;
    private static final int FLAT = 16;

    private static final int LEAVES = 2;
    private static final int MOST_PARTS = 30;
    private static final int MOST_PLANES = 62;
    private static final int MOST_SIZE = 1000;
    private static final int MOST_TOLERANCE = 100;
    private static final int FIRST_WIDTH = 200;
    private static final int FIRST_TOLERANCE = 2;

    private static final int BEND = 0;
    private static final int BOX = 1;
    private static final int STRAP = 2;

    private static final int WAY_LENGTH = 10000;
    private static final int[] WAY_X = {
        10000, 9808, 9239, 8315, 7071, 5556, 3827, 1951, 0,
        -1951, -3827, -5556, -7071, -8315, -9239, -9808, -10000
    };
    private static final int[] WAY_Y = {
        0, 1951, 3827, 5556, 7071, 8315, 9239, 9808, 10000,
        9808, 9239, 8315, 7071, 5556, 3827, 1951, 0
    };

    /** One place followed through all steps; stuck where there is none. */
    private static final class Track {
        final int[] x = new int[STEPS];
        final int[] y = new int[STEPS];
        final boolean[] stuck = new boolean[STEPS];

        void put(int step, int newX, int newY) {
            x[step] = newX;
            y[step] = newY;
            stuck[step] = false;
        }

        void lose(int step) {
            stuck[step] = true;
        }

        /** The first step at which there is no such place. */
        int firstStuck() {
            for (int step = 0; step < STEPS; step++) {
                if (stuck[step]) {
                    return step;
                }
            }
            return NONE;
        }

        int moveFrom(int step) {
            if (stuck[step] || stuck[step + 1]) {
                return -1;
            }
            return Math.max(Math.abs(x[step + 1] - x[step]), Math.abs(y[step + 1] - y[step]));
        }

        long squareTo(Track other, int step) {
            long dx = other.x[step] - x[step];
            long dy = other.y[step] - y[step];
            return dx * dx + dy * dy;
        }
    }

    /**
     * A leaf or a flat. Places on it are measured against its aim: a flat's is its END, but a leaf's
     * is its WAY, since the document rounds the places of leaves but once.
     */
    private static final class Plane {
        final Track begin;
        final Track end;
        final Track aim;
        final boolean leaf;
        int size;

        Plane(Track begin, Track end, Track aim, boolean leaf) {
            this.begin = begin;
            this.end = end;
            this.aim = aim;
            this.leaf = leaf;
        }

        boolean isStuck(int step) {
            return end.stuck[step];
        }

        void mark(int distance, int step, Track into) {
            if (isStuck(step)) {
                into.lose(step);
                return;
            }
            int whole = leaf ? WAY_LENGTH : size;
            int beginX = begin.x[step];
            int beginY = begin.y[step];
            long reachX = aim.x[step] - beginX;
            long reachY = aim.y[step] - beginY;
            into.put(step, beginX + nearest(reachX * distance, whole), beginY + nearest(reachY * distance, whole));
        }

        /** Above 0 to the left of this plane's line, below 0 to the right, 0 on it. */
        long sideOf(Track place, int step) {
            long alongX = end.x[step] - begin.x[step];
            long alongY = end.y[step] - begin.y[step];
            long offX = place.x[step] - begin.x[step];
            long offY = place.y[step] - begin.y[step];
            return alongX * offY - alongY * offX;
        }

        boolean isBetweenEndsOf(Plane other, int step) {
            long atBegin = sideOf(other.begin, step);
            long atEnd = sideOf(other.end, step);
            return (atBegin < 0 && atEnd > 0) || (atBegin > 0 && atEnd < 0);
        }

        boolean runsInto(Plane other, int step) {
            return !isStuck(step) && !other.isStuck(step)
                && isBetweenEndsOf(other, step) && other.isBetweenEndsOf(this, step);
        }
    }

    /** Two flats, hung at a on plane p and at b on plane q; c and d of the document are the flats' sizes. */
    private static final class Part {
        final Track hingeA = new Track();
        final Track hingeB = new Track();
        final Track crease = new Track();
        final Plane flatA = new Plane(hingeA, crease, crease, false);
        final Plane flatB = new Plane(hingeB, crease, crease, false);
        int kind;
        int p;
        int a;
        int q;
        int b;
        boolean leftward;
        boolean there;

        void hang(int newKind, int newP, int newA, int newQ, int newB) {
            kind = newKind;
            p = newP;
            a = newA;
            q = newQ;
            b = newB;
        }

        void cut(int c, int d) {
            flatA.size = kind == BOX ? b : c;
            flatB.size = kind == BOX ? a : d;
        }

        void likenTo(Part model) {
            hang(model.kind, model.p, model.a, model.q, model.b);
            flatA.size = model.flatA.size;
            flatB.size = model.flatB.size;
            leftward = model.leftward;
        }

        int planeOf(boolean first) {
            return first ? p : q;
        }

        int distanceOf(boolean first) {
            return first ? a : b;
        }

        int leastDistance() {
            return kind == BOX ? 1 : 0;
        }

        void rehang(boolean first, int distance) {
            if (first) {
                a = distance;
            } else {
                b = distance;
            }
            cut(flatA.size, flatB.size);
        }

        /** Puts the crease where the circles around the hinges, with the flats as their radii, meet. */
        void fold(int step) {
            if (hingeA.stuck[step] || hingeB.stuck[step]) {
                crease.lose(step);
                return;
            }
            long c = flatA.size;
            long d = flatB.size;
            long square = hingeA.squareTo(hingeB, step);
            if (square == 0) {
                foldOnOnePlace(step);
                return;
            }
            // r is below 0 there too, but e times e might not fit a long.
            if (square > (c + d) * (c + d)) {
                crease.lose(step);
                return;
            }
            long e = c * c - d * d + square;
            long r = 4 * c * c * square - e * e;
            if (r < 0) {
                crease.lose(step);
                return;
            }
            long s = leftward ? rootBelow(r) : -rootBelow(r);
            long dx = hingeB.x[step] - hingeA.x[step];
            long dy = hingeB.y[step] - hingeA.y[step];
            crease.put(step,
                hingeA.x[step] + nearest(dx * e - dy * s, 2 * square),
                hingeA.y[step] + nearest(dy * e + dx * s, 2 * square));
        }

        void foldOnOnePlace(int step) {
            if (flatA.size == flatB.size) {
                crease.put(step, hingeA.x[step] + flatA.size, hingeA.y[step]);
            } else {
                crease.lose(step);
            }
        }

        int missAt(int step) {
            if (crease.stuck[step]) {
                return 0;
            }
            long c = flatA.size;
            long d = flatB.size;
            long missA = Math.abs(hingeA.squareTo(crease, step) - c * c);
            long missB = Math.abs(hingeB.squareTo(crease, step) - d * d);
            return (int) Math.max(missA, missB);
        }

        boolean isNearHeight(int step, int height, int tol) {
            return !crease.stuck[step] && Math.abs((long) crease.y[step] - height) <= tol;
        }
    }

    private final Part[] parts = new Part[MOST_PARTS];
    private final Plane[] planes = new Plane[MOST_PLANES];
    private final int[] refusals = new int[REFUSAL_ROWS];
    /** Where something is tried that shall not change the page; made once, to spare objects. */
    private final Part trial = new Part();
    private final Track probe = new Track();
    private int pageWidth;
    private int pageTolerance;
    private int made;

    public RisingPage() {
        Track spine = new Track();
        Track lyingWay = new Track();
        Track openingWay = new Track();
        for (int step = 0; step < STEPS; step++) {
            lyingWay.put(step, WAY_LENGTH, 0);
            openingWay.put(step, WAY_X[step], WAY_Y[step]);
        }
        planes[0] = new Plane(spine, new Track(), lyingWay, true);
        planes[1] = new Plane(spine, new Track(), openingWay, true);
        pageTolerance = FIRST_TOLERANCE;
        cutLeaves(FIRST_WIDTH);
    }

    public int width(int v) {
        if (partsThere() > 0) {
            return refuse(STATE);
        }
        if (v < 1) {
            return refuse(BELOW);
        }
        if (v > MOST_SIZE) {
            return refuse(ROOM);
        }
        int before = pageWidth;
        cutLeaves(v);
        return before;
    }

    public int tolerance(int v) {
        if (v < 0) {
            return refuse(BELOW);
        }
        if (v > MOST_TOLERANCE) {
            return refuse(ROOM);
        }
        int before = pageTolerance;
        pageTolerance = v;
        return before;
    }

    public int part(int kind, int p, int a, int q, int b, int c, int d, boolean side) {
        trial.hang(kind, p, a, q, b);
        trial.cut(c, d);
        trial.leftward = side;
        int answer = judgeTrial();
        if (answer == GRANTED && kind == STRAP) {
            answer = stretchTrial();
        }
        if (answer != GRANTED) {
            return refuse(answer);
        }
        return addTrial();
    }

    public int free(int part) {
        Part found = partThere(part);
        if (found == null) {
            return refuse(NOBODY);
        }
        if (hangingOn(part) > 0) {
            return refuse(STATE);
        }
        found.there = false;
        putPlanes(part, null, null);
        return 1;
    }

    public int hinge(int part, boolean first, int v) {
        Part found = partThere(part);
        if (found == null) {
            return refuse(NOBODY);
        }
        if (v < found.leastDistance()) {
            return refuse(BELOW);
        }
        if (v > sizeOf(found.planeOf(first))) {
            return refuse(ROOM);
        }
        int before = found.distanceOf(first);
        found.rehang(first, v);
        settleFrom(part);
        return before;
    }

    public int crease(int part, int step, int what) {
        Part found = partThere(part);
        if (found == null || !isStep(step)) {
            return refuseApart(NOBODY);
        }
        if (what != 0 && what != 1) {
            return refuseApart(OTHER);
        }
        return coordinate(found.crease, step, what);
    }

    public int place(int plane, int distance, int step, int what) {
        Plane found = planeThere(plane);
        if (found == null || !isStep(step)) {
            return refuseApart(NOBODY);
        }
        if (what != 0 && what != 1) {
            return refuseApart(OTHER);
        }
        if (distance < 0) {
            return refuseApart(BELOW);
        }
        if (distance > found.size) {
            return refuseApart(ROOM);
        }
        found.mark(distance, step, probe);
        return coordinate(probe, step, what);
    }

    public int miss(int part, int step) {
        Part found = partThere(part);
        if (found == null || !isStep(step)) {
            return refuse(NOBODY);
        }
        return found.missAt(step);
    }

    public int stuck(int part) {
        Part found = partThere(part);
        if (found == null) {
            return refuse(NOBODY);
        }
        return found.crease.firstStuck();
    }

    public int out(int step) {
        if (!isStep(step)) {
            return refuse(NOBODY);
        }
        return creasesOutside(step);
    }

    public int meet(int plane, int other, int step) {
        Plane one = planeThere(plane);
        Plane two = planeThere(other);
        if (one == null || two == null || plane == other || !isStep(step)) {
            return refuse(NOBODY);
        }
        return one.runsInto(two, step) ? 1 : 0;
    }

    public int meets(int what) {
        if (what < 0 || what > 2) {
            return refuse(OTHER);
        }
        int bound = planesEver();
        for (int step = 0; step < STEPS; step++) {
            for (int lesser = 0; lesser < bound; lesser++) {
                int greater = firstRunInto(lesser, step);
                if (greater != NONE) {
                    return what == 0 ? step : what == 1 ? lesser : greater;
                }
            }
        }
        return NONE;
    }

    public int tall(int step) {
        if (!isStep(step)) {
            return refuseApart(NOBODY);
        }
        return tallest(step);
    }

    public int move(int part, int step) {
        Part found = partThere(part);
        if (found == null || !isStep(step) || step == FLAT) {
            return refuseApart(NOBODY);
        }
        return found.crease.moveFrom(step);
    }

    public int greatest() {
        int most = 0;
        for (int i = 0; i < made; i++) {
            Part each = partThere(i);
            if (each != null) {
                for (int step = 0; step < FLAT; step++) {
                    most = Math.max(most, each.crease.moveFrom(step));
                }
            }
        }
        return most;
    }

    public int find(int part, boolean first, int v, int step, int height, int tol) {
        Part found = partThere(part);
        if (found == null || !isStep(step)) {
            return refuse(NOBODY);
        }
        if (v < 0 || tol < 0) {
            return refuse(BELOW);
        }
        int size = sizeOf(found.planeOf(first));
        if (v > size) {
            return refuse(ROOM);
        }
        trial.likenTo(found);
        for (int distance = Math.max(v, found.leastDistance()); distance <= size; distance++) {
            trial.rehang(first, distance);
            settle(trial, step);
            if (trial.isNearHeight(step, height, tol)) {
                return distance;
            }
        }
        return NONE;
    }

    public boolean even(int part) {
        Part found = partThere(part);
        if (found == null || found.crease.stuck[UPRIGHT]) {
            return false;
        }
        return Math.abs(found.crease.x[UPRIGHT] - found.crease.y[UPRIGHT]) <= pageTolerance;
    }

    public int partOf(int part, int what) {
        Part found = partEver(part);
        if (found == null) {
            return refuse(NOBODY);
        }
        switch (what) {
            case 0: return found.kind;
            case 1: return found.p;
            case 2: return found.a;
            case 3: return found.q;
            case 4: return found.b;
            case 5: return found.flatA.size;
            case 6: return found.flatB.size;
            case 7: return found.leftward ? 1 : 0;
            case 8: return found.there ? 1 : 0;
            case 9: return hangingOn(part);
            default: return refuse(OTHER);
        }
    }

    public int count(int what) {
        switch (what) {
            case 0: return pageWidth;
            case 1: return made;
            case 2: return partsThere();
            case 3: return creasesOutside(SHUT) == 0 ? 1 : 0;
            case 4: return partsStuck();
            case 11: case 12: case 13: case 14: case 15: case 16: return refusals[what - 10];
            default: return NONE;
        }
    }

    /** The quotient rounded to the nearest whole number, of two the greater. */
    private static int nearest(long dividend, long divisor) {
        if (divisor <= 0) {
            return 0;
        }
        return (int) Math.floorDiv(2 * dividend + divisor, 2 * divisor);
    }

    /** The square root, rounded down. The greatest that a page asks for is 2 c d, so at most 2000000: 21 bits. */
    private static long rootBelow(long value) {
        long root = 0;
        for (int bit = 20; bit >= 0; bit--) {
            long tried = root + (1L << bit);
            if (tried * tried <= value) {
                root = tried;
            }
        }
        return root;
    }

    private static boolean isStep(int step) {
        return step >= 0 && step < STEPS;
    }

    private static int coordinate(Track track, int step, int what) {
        if (track.stuck[step]) {
            return APART;
        }
        return what == 0 ? track.x[step] : track.y[step];
    }

    private int refuse(int why) {
        int row = -why;
        if (row > 0 && row < REFUSAL_ROWS) {
            refusals[row]++;
        }
        return why;
    }

    private int refuseApart(int why) {
        return APART - refuse(why);
    }

    private Part partEver(int number) {
        return number >= 0 && number < made && number < MOST_PARTS ? parts[number] : null;
    }

    private Part partThere(int number) {
        Part found = partEver(number);
        return found != null && found.there ? found : null;
    }

    private Plane planeThere(int number) {
        return number >= 0 && number < MOST_PLANES ? planes[number] : null;
    }

    private int planesEver() {
        return LEAVES + 2 * made;
    }

    private int sizeOf(int plane) {
        Plane found = planeThere(plane);
        return found == null ? 0 : found.size;
    }

    private void cutLeaves(int size) {
        pageWidth = size;
        for (int i = 0; i < LEAVES; i++) {
            Plane leaf = planeThere(i);
            if (leaf != null) {
                leaf.size = size;
                for (int step = 0; step < STEPS; step++) {
                    leaf.mark(size, step, leaf.end);
                }
            }
        }
    }

    private int partsThere() {
        int there = 0;
        for (int i = 0; i < made; i++) {
            if (partThere(i) != null) {
                there++;
            }
        }
        return there;
    }

    private int partsStuck() {
        int stuckOnes = 0;
        for (int i = 0; i < made; i++) {
            Part each = partThere(i);
            if (each != null && each.crease.firstStuck() != NONE) {
                stuckOnes++;
            }
        }
        return stuckOnes;
    }

    private int hangingOn(int part) {
        int lower = LEAVES + 2 * part;
        int hanging = 0;
        for (int i = part + 1; i < made; i++) {
            Part each = partThere(i);
            if (each != null && (isOneOfPair(each.p, lower) || isOneOfPair(each.q, lower))) {
                hanging++;
            }
        }
        return hanging;
    }

    private static boolean isOneOfPair(int plane, int lower) {
        return plane == lower || plane == lower + 1;
    }

    /** Why the trial can't become a part, in the document's order, but for what is asked of straps alone. */
    private int judgeTrial() {
        Plane onto = planeThere(trial.p);
        Plane other = planeThere(trial.q);
        if (onto == null || other == null || trial.p == trial.q) {
            return NOBODY;
        }
        if (trial.kind < BEND || trial.kind > STRAP) {
            return OTHER;
        }
        boolean cIsTold = trial.kind != BOX;
        boolean dIsTold = trial.kind == BEND;
        int c = trial.flatA.size;
        int d = trial.flatB.size;
        int least = trial.leastDistance();
        if (trial.a < least || trial.b < least || (cIsTold && c < 1) || (dIsTold && d < 1)) {
            return BELOW;
        }
        if (trial.a > onto.size || trial.b > other.size
            || (cIsTold && c > MOST_SIZE) || (dIsTold && d > MOST_SIZE) || made >= MOST_PARTS) {
            return ROOM;
        }
        return GRANTED;
    }

    /** Gives the trial, a strap, the second flat that lets its hinges be as far apart as they are when flat. */
    private int stretchTrial() {
        markOn(trial.p, trial.a, FLAT, trial.hingeA);
        markOn(trial.q, trial.b, FLAT, trial.hingeB);
        if (trial.hingeA.stuck[FLAT] || trial.hingeB.stuck[FLAT]) {
            return STATE;
        }
        long apart = rootBelow(trial.hingeA.squareTo(trial.hingeB, FLAT));
        long rest = Math.max(1, apart - trial.flatA.size);
        if (rest > MOST_SIZE) {
            return ROOM;
        }
        trial.flatB.size = (int) rest;
        return GRANTED;
    }

    private int addTrial() {
        int number = made;
        if (number < 0 || number >= MOST_PARTS) {
            return refuse(ROOM);
        }
        Part added = new Part();
        added.likenTo(trial);
        added.there = true;
        parts[number] = added;
        made++;
        putPlanes(number, added.flatA, added.flatB);
        settleFrom(number);
        return number;
    }

    private void putPlanes(int part, Plane flatA, Plane flatB) {
        int lower = LEAVES + 2 * part;
        if (lower >= LEAVES && lower + 1 < MOST_PLANES) {
            planes[lower] = flatA;
            planes[lower + 1] = flatB;
        }
    }

    /** A part hangs on earlier ones alone, so those before the changed one stay as they are. */
    private void settleFrom(int part) {
        for (int i = part; i < made; i++) {
            Part each = partThere(i);
            if (each != null) {
                for (int step = 0; step < STEPS; step++) {
                    settle(each, step);
                }
            }
        }
    }

    private void settle(Part part, int step) {
        markOn(part.p, part.a, step, part.hingeA);
        markOn(part.q, part.b, step, part.hingeB);
        part.fold(step);
    }

    private void markOn(int plane, int distance, int step, Track into) {
        Plane found = planeThere(plane);
        if (found == null) {
            into.lose(step);
        } else {
            found.mark(distance, step, into);
        }
    }

    private int creasesOutside(int step) {
        if (step != SHUT && step != FLAT) {
            return 0;
        }
        int leastX = step == SHUT ? 0 : -pageWidth;
        int outside = 0;
        for (int i = 0; i < made; i++) {
            Part each = partThere(i);
            if (each != null && !each.crease.stuck[step]) {
                int x = each.crease.x[step];
                if (x < leastX || x > pageWidth || Math.abs(each.crease.y[step]) > pageTolerance) {
                    outside++;
                }
            }
        }
        return outside;
    }

    private int tallest(int step) {
        int most = 0;
        boolean any = false;
        for (int i = 0; i < made; i++) {
            Part each = partThere(i);
            if (each != null && !each.crease.stuck[step]) {
                most = any ? Math.max(most, each.crease.y[step]) : each.crease.y[step];
                any = true;
            }
        }
        return most;
    }

    /** The least plane above this one that it runs into. */
    private int firstRunInto(int lesser, int step) {
        Plane one = planeThere(lesser);
        if (one == null) {
            return NONE;
        }
        int bound = planesEver();
        for (int greater = lesser + 1; greater < bound; greater++) {
            Plane two = planeThere(greater);
            if (two != null && one.runsInto(two, step)) {
                return greater;
            }
        }
        return NONE;
    }
}
