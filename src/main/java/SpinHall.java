import java.util.NoSuchElementException;

/** A hall of all that spins and rolls; ../shared/DOC.md says what each call does. */
public final class SpinHall {
    private static final int MOST_BODIES = 6;
    private static final int MOST_TOPS = 8;
    private static final int MOST_BACK = 12;
    private static final int WHOLE_TURN = 360;
    // far above the steps that two longs need for their common divisor
    private static final int MOST_STEPS = 1000;

    private final Body[] bodies;
    private final Top[] tops;
    private final Cage cage;
    private final Cat cat;
    private final Craft craft;
    private final Album album;
    private int bodyCount;
    private int topCount;
    private int eventCount;

    public SpinHall() {
        bodies = new Body[MOST_BODIES];
        tops = new Top[MOST_TOPS];
        cage = new Cage();
        cat = new Cat();
        craft = new Craft();
        album = new Album();
    }

    // ---- bodies

    public int addBody() throws IllegalStateException {
        if (bodyCount < 0 || bodyCount >= bodies.length) {
            throw new IllegalStateException("no room for a body");
        }
        bodies[bodyCount] = new Body();
        bodyCount++;
        return bodyCount - 1;
    }

    public int addMass(int body, int mass, int x, int y, int z)
            throws IndexOutOfBoundsException, IllegalArgumentException, IllegalStateException {
        Body found = bodyBy(body);
        needWithin(mass, 1, 9);
        needWithin(x, -9, 9);
        needWithin(y, -9, 9);
        needWithin(z, -9, 9);
        if (found.isFull()) {
            throw new IllegalStateException("no room for a mass");
        }
        return found.take(mass, x, y, z);
    }

    public int massOf(int body) throws IndexOutOfBoundsException {
        return bodyBy(body).wholeMass();
    }

    public int sumOf(int body, char axis) throws IndexOutOfBoundsException, IllegalArgumentException {
        Body found = bodyBy(body);
        return found.sum(axisBy(axis));
    }

    public int momentOf(int body, char axis) throws IndexOutOfBoundsException, IllegalArgumentException {
        Body found = bodyBy(body);
        return found.moment(axisBy(axis));
    }

    public int productOf(int body, char axis) throws IndexOutOfBoundsException, IllegalArgumentException {
        Body found = bodyBy(body);
        return found.product(axisBy(axis));
    }

    public char kindOf(int body)
            throws IndexOutOfBoundsException, NoSuchElementException, UnsupportedOperationException {
        Body found = bodyBy(body);
        if (found.isEmpty()) {
            throw new NoSuchElementException("no masses");
        }
        needBalanced(found);
        return found.kind();
    }

    public char loadedAxis(int body) throws IndexOutOfBoundsException {
        return bodyBy(body).loadedTowards();
    }

    // ---- free spins

    public long setSpin(int body, int p, int q, int r)
            throws IndexOutOfBoundsException, IllegalArgumentException {
        Body found = bodyBy(body);
        needWithin(p, -20, 20);
        needWithin(q, -20, 20);
        needWithin(r, -20, 20);
        found.spinBy(p, q, r);
        return found.energy();
    }

    public long energyOf(int body) throws IndexOutOfBoundsException {
        return bodyBy(body).energy();
    }

    public long momentumOf(int body) throws IndexOutOfBoundsException {
        return bodyBy(body).momentumSquare();
    }

    public char firmness(int body, char axis)
            throws IndexOutOfBoundsException, IllegalArgumentException, UnsupportedOperationException {
        Body found = bodyBy(body);
        int number = axisBy(axis);
        needBalanced(found);
        return found.firm(number);
    }

    public char goesRound(int body)
            throws IndexOutOfBoundsException, UnsupportedOperationException, NoSuchElementException {
        Body found = bodyBy(body);
        needBalanced(found);
        if (found.kind() != 'a') {
            throw new UnsupportedOperationException("some moments are alike");
        }
        if (!found.spins()) {
            throw new NoSuchElementException("it does not spin");
        }
        return found.spinAxis();
    }

    // ---- turns

    public boolean turn(int body, int w, int x, int y, int z)
            throws IndexOutOfBoundsException, IllegalArgumentException, ArithmeticException {
        Body found = bodyBy(body);
        Turn then = turnBy(w, x, y, z).behind(found.turned).least();
        if (then.isBeyond()) {
            throw new ArithmeticException("a number of the turn is beyond its limit");
        }
        found.turned = then;
        return then.isNone();
    }

    public int turnOf(int body, int index) throws IndexOutOfBoundsException, IllegalArgumentException {
        Body found = bodyBy(body);
        needWithin(index, 0, 3);
        return (int) found.turned.number(index);
    }

    public int placeOf(int body, int mass, char axis)
            throws IndexOutOfBoundsException, IllegalArgumentException {
        Body found = bodyBy(body);
        if (!found.holds(mass)) {
            throw new IndexOutOfBoundsException("no such mass");
        }
        return (int) found.turnedPlace(mass, axisBy(axis));
    }

    public int timesBack(int w, int x, int y, int z)
            throws IllegalArgumentException, NoSuchElementException {
        Turn once = turnBy(w, x, y, z);
        Turn then = new Turn(1, 0, 0, 0);
        for (int times = 1; times <= MOST_BACK; times++) {
            then = once.behind(then).least();
            if (then.isNone()) {
                return times;
            }
        }
        throw new NoSuchElementException("not back in time");
    }

    // ---- tops, rolling

    public int addTop(int spin, int loss, int c, int a, int weight)
            throws IllegalArgumentException, IllegalStateException {
        needWithin(spin, 1, Top.MOST_SPIN);
        needWithin(loss, 1, 99);
        needWithin(c, 1, 9);
        needWithin(a, 1, 9);
        needWithin(weight, 1, 99999);
        if (topCount < 0 || topCount >= tops.length) {
            throw new IllegalStateException("no room for a top");
        }
        tops[topCount] = new Top(spin, loss, c, a, weight);
        topCount++;
        return topCount - 1;
    }

    public char stateOf(int top) throws IndexOutOfBoundsException {
        return topBy(top).state;
    }

    public int spinOf(int top) throws IndexOutOfBoundsException {
        return topBy(top).spin;
    }

    public int pushTop(int top, int by)
            throws IndexOutOfBoundsException, IllegalArgumentException, UnsupportedOperationException {
        Top found = topBy(top);
        needWithin(by, 1, 9999);
        if (found.lies()) {
            throw new UnsupportedOperationException("it lies");
        }
        eventCount += found.quicken(by);
        return found.spin;
    }

    public int run(int ticks) throws IllegalArgumentException {
        needWithin(ticks, 1, 999);
        int changes = 0;
        for (Top top : tops) {
            if (top != null) {
                changes += top.pass(ticks);
            }
        }
        eventCount += changes;
        return changes;
    }

    public int events() {
        return eventCount;
    }

    public int nextEvent(int top) throws IndexOutOfBoundsException, NoSuchElementException {
        Top found = topBy(top);
        if (found.lies()) {
            throw new NoSuchElementException("it lies");
        }
        return found.ticksToChange();
    }

    public int standing(int top) throws IndexOutOfBoundsException {
        return topBy(top).ticksToFall();
    }

    public int placeAt(int rank) throws NoSuchElementException {
        for (int i = 0; i < tops.length; i++) {
            Top top = tops[i];
            if (top != null && countAhead(i, top) == rank) {
                return i;
            }
        }
        throw new NoSuchElementException("no such rank");
    }

    public boolean slips(char kind, int rise, int along, int friction) throws IllegalArgumentException {
        int above = rollerAbove(kind);
        int below = rollerBelow(kind);
        needWithin(rise, 0, 999);
        needWithin(along, 1, 999);
        needWithin(friction, 0, 200);
        return 100 * rise * above > friction * along * (above + below);
    }

    public int speedSquare(char kind, int height) throws IllegalArgumentException {
        int above = rollerAbove(kind);
        int below = rollerBelow(kind);
        needWithin(height, 0, 9999);
        return (int) floorQuotient(20L * height * below, above + below);
    }

    // ---- a cage, a cat

    public int setMomentum(int momentum) throws IllegalArgumentException {
        needWithin(momentum, 1, 9999);
        int before = cage.momentum;
        cage.momentum = momentum;
        cage.kept = 0;
        return before;
    }

    public int turnRing(int ring, int degrees) throws IllegalArgumentException {
        needWithin(ring, 0, 2);
        needWithin(degrees, -WHOLE_TURN, WHOLE_TURN);
        return cage.turnedRing(ring, degrees);
    }

    public boolean isLocked() {
        return cage.locks();
    }

    public int pushCage(int push, int ticks) throws IllegalArgumentException, UnsupportedOperationException {
        needWithin(push, -999, 999);
        needWithin(ticks, 1, 999);
        if (cage.locks()) {
            throw new UnsupportedOperationException("the cage is locked");
        }
        return cage.giveWay(push * ticks);
    }

    public int fold(boolean isFront, int moment) throws IllegalArgumentException {
        needWithin(moment, 1, 99);
        return cat.foldPart(isFront, moment);
    }

    public int twist(int degrees) throws IllegalArgumentException, ArithmeticException {
        needWithin(degrees, -180, 180);
        Fraction front = cat.frontAfter(degrees);
        Fraction back = cat.backAfter(degrees);
        if (front.isBeyond() || back.isBeyond()) {
            throw new ArithmeticException("a number of a fraction is beyond its limit");
        }
        cat.front = front;
        cat.back = back;
        cat.twisted += degrees;
        return cat.twisted;
    }

    public long catTurn(boolean isFront, boolean isTop) {
        Fraction part = isFront ? cat.front : cat.back;
        return isTop ? part.above : part.below;
    }

    // ---- a craft, photographs

    public int command(char axis, int torque, int ticks) throws IllegalArgumentException {
        int number = axisBy(axis);
        needWithin(torque, -999, 999);
        needWithin(ticks, 1, 99);
        return craft.drive(number, torque * ticks);
    }

    public long driftOf(char axis) throws IllegalArgumentException {
        return craft.drift(axisBy(axis));
    }

    public int unload(char axis, int by) throws IllegalArgumentException {
        int number = axisBy(axis);
        needWithin(by, 1, 9999);
        return craft.slow(number, by);
    }

    public int seen(int rate, int gap) throws IllegalArgumentException {
        needWithin(rate, -1800, 1800);
        needWithin(gap, 1, 50);
        return Album.look(rate, gap);
    }

    public int photograph(int gap, int seen) throws IllegalArgumentException, IllegalStateException {
        needWithin(gap, 1, 50);
        needWithin(seen, -179, 180);
        if (album.isFull()) {
            throw new IllegalStateException("no room for a photograph");
        }
        album.take(gap, seen);
        return album.count;
    }

    public int clearPhotographs() {
        int before = album.count;
        album.count = 0;
        return before;
    }

    public int rates() {
        return album.countSuiting();
    }

    public int slowestRate() throws NoSuchElementException {
        for (int size = 0; size <= Album.MOST_RATE; size++) {
            if (album.suits(size)) {
                return size;
            }
            if (album.suits(-size)) {
                return -size;
            }
        }
        throw new NoSuchElementException("no rate suits");
    }

    // ---- figures

    public long checksum() {
        long sum = 7;
        for (Body body : bodies) {
            if (body != null) {
                for (int index = 0; index < 4; index++) {
                    sum = 31 * sum + body.turned.number(index);
                }
            }
        }
        for (Top top : tops) {
            if (top != null) {
                sum = 31 * sum + top.spin;
            }
        }
        for (int angle : cage.angles) {
            sum = 31 * sum + angle;
        }
        for (int speed : craft.speeds) {
            sum = 31 * sum + speed;
        }
        return sum;
    }

    public float wakingShare() throws ArithmeticException {
        int nodding = 0;
        int standing = 0;
        for (Top top : tops) {
            if (top != null && !top.lies()) {
                standing++;
                nodding += top.state == 'n' ? 1 : 0;
            }
        }
        if (standing == 0) {
            throw new ArithmeticException("all tops lie");
        }
        return (float) nodding / (float) standing;
    }

    public double meanPlace(int body, char axis)
            throws IndexOutOfBoundsException, IllegalArgumentException, ArithmeticException {
        Body found = bodyBy(body);
        int sum = found.sum(axisBy(axis));
        int mass = found.wholeMass();
        if (mass == 0) {
            throw new ArithmeticException("no masses");
        }
        return (double) sum / (double) mass;
    }

    public boolean isSound() {
        for (Body body : bodies) {
            if (body != null && !(body.momentsFit() && body.turned.isLeast())) {
                return false;
            }
        }
        for (Top top : tops) {
            if (top != null && !top.standsRightly()) {
                return false;
            }
        }
        return cage.keepsLittle() && craft.isWithinSpeed();
    }

    // ---- what the calls share

    private Body bodyBy(int number) throws IndexOutOfBoundsException {
        if (number < 0 || number >= bodies.length) {
            throw new IndexOutOfBoundsException("no such body");
        }
        Body found = bodies[number];
        if (found == null) {
            throw new IndexOutOfBoundsException("no such body");
        }
        return found;
    }

    private Top topBy(int number) throws IndexOutOfBoundsException {
        if (number < 0 || number >= tops.length) {
            throw new IndexOutOfBoundsException("no such top");
        }
        Top found = tops[number];
        if (found == null) {
            throw new IndexOutOfBoundsException("no such top");
        }
        return found;
    }

    private static int axisBy(char letter) throws IllegalArgumentException {
        if (letter < 'x' || letter > 'z') {
            throw new IllegalArgumentException("no such axis");
        }
        return letter - 'x';
    }

    private static Turn turnBy(int w, int x, int y, int z) throws IllegalArgumentException {
        needWithin(w, -9, 9);
        needWithin(x, -9, 9);
        needWithin(y, -9, 9);
        needWithin(z, -9, 9);
        if (w == 0 && x == 0 && y == 0 && z == 0) {
            throw new IllegalArgumentException("all numbers of the turn are 0");
        }
        return new Turn(w, x, y, z);
    }

    private static void needWithin(int number, int least, int most) throws IllegalArgumentException {
        if (number < least || number > most) {
            throw new IllegalArgumentException("a number is out of range");
        }
    }

    private static void needBalanced(Body body) throws UnsupportedOperationException {
        if (!body.isBalanced()) {
            throw new UnsupportedOperationException("some product is not 0");
        }
    }

    /** How many tops stand ahead of one in their ranks. */
    private int countAhead(int number, Top top) {
        int stands = top.ticksToFall();
        int ahead = 0;
        for (int i = 0; i < tops.length; i++) {
            Top other = tops[i];
            if (other != null) {
                int otherStands = other.ticksToFall();
                if (otherStands > stands || (otherStands == stands && i < number)) {
                    ahead++;
                }
            }
        }
        return ahead;
    }

    /** The number above in the share of moment that one that rolls has. */
    private static int rollerAbove(char kind) throws IllegalArgumentException {
        if (kind != 'h' && kind != 'd' && kind != 'b') {
            throw new IllegalArgumentException("no such kind");
        }
        return kind == 'b' ? 2 : 1;
    }

    /** The number below in that share. */
    private static int rollerBelow(char kind) {
        if (kind == 'b') {
            return 5;
        }
        return kind == 'd' ? 2 : 1;
    }

    private static long floorQuotient(long number, long divisor) {
        return divisor == 0 ? 0 : Math.floorDiv(number, divisor);
    }

    private static long commonDivisor(long one, long other) {
        long left = Math.abs(one);
        long right = Math.abs(other);
        for (int step = 0; right != 0 && step < MOST_STEPS; step++) {
            long rest = left % right;
            left = right;
            right = rest;
        }
        return left;
    }

    /** Masses that are fast to each other, with a spin and a turn; axes are 0, 1 and 2. */
    private static final class Body {
        private static final int MOST_MASSES = 8;

        // a place without a mass holds the mass 0, so that sums may go over all places
        private final int[] masses = new int[MOST_MASSES];
        private final int[] xs = new int[MOST_MASSES];
        private final int[] ys = new int[MOST_MASSES];
        private final int[] zs = new int[MOST_MASSES];
        private int massCount;
        private int p;
        private int q;
        private int r;
        private Turn turned = new Turn(1, 0, 0, 0);

        private boolean isEmpty() {
            return massCount == 0;
        }

        private boolean isFull() {
            return massCount < 0 || massCount >= MOST_MASSES;
        }

        private boolean holds(int mass) {
            return mass >= 0 && mass < massCount;
        }

        private int take(int mass, int x, int y, int z) {
            if (isFull()) {
                return -1;
            }
            masses[massCount] = mass;
            xs[massCount] = x;
            ys[massCount] = y;
            zs[massCount] = z;
            massCount++;
            return massCount - 1;
        }

        private int[] places(int axis) {
            if (axis == 0) {
                return xs;
            }
            return axis == 1 ? ys : zs;
        }

        private int wholeMass() {
            int whole = 0;
            for (int mass : masses) {
                whole += mass;
            }
            return whole;
        }

        private int sum(int axis) {
            int[] places = places(axis);
            int sum = 0;
            for (int i = 0; i < MOST_MASSES; i++) {
                sum += masses[i] * places[i];
            }
            return sum;
        }

        private int sumOfBoth(int axis, int other) {
            int[] places = places(axis);
            int[] others = places(other);
            int sum = 0;
            for (int i = 0; i < MOST_MASSES; i++) {
                sum += masses[i] * places[i] * others[i];
            }
            return sum;
        }

        private int moment(int axis) {
            int one = (axis + 1) % 3;
            int two = (axis + 2) % 3;
            int squares = sumOfBoth(one, one) + sumOfBoth(two, two);
            return wholeMass() * squares - sum(one) * sum(one) - sum(two) * sum(two);
        }

        private int product(int axis) {
            int one = (axis + 1) % 3;
            int two = (axis + 2) % 3;
            return sum(one) * sum(two) - wholeMass() * sumOfBoth(one, two);
        }

        private boolean isBalanced() {
            return product(0) == 0 && product(1) == 0 && product(2) == 0;
        }

        private char kind() {
            int a = moment(0);
            int b = moment(1);
            int c = moment(2);
            if (a == 0 || b == 0 || c == 0) {
                return 'r';
            }
            if (a == b) {
                return kindByThird(a, c);
            }
            if (b == c) {
                return kindByThird(b, a);
            }
            return a == c ? kindByThird(a, b) : 'a';
        }

        private static char kindByThird(int twin, int third) {
            if (third == twin) {
                return 's';
            }
            return third < twin ? 'p' : 'o';
        }

        private char loadedTowards() {
            int best = 0;
            for (int axis = 1; axis < 3; axis++) {
                if (Math.abs(sum(axis)) > Math.abs(sum(best))) {
                    best = axis;
                }
            }
            int sum = sum(best);
            if (sum == 0) {
                return '-';
            }
            return (char) ((sum < 0 ? 'X' : 'x') + best);
        }

        private void spinBy(int aboutX, int aboutY, int aboutZ) {
            p = aboutX;
            q = aboutY;
            r = aboutZ;
        }

        private boolean spins() {
            return p != 0 || q != 0 || r != 0;
        }

        private int spin(int axis) {
            if (axis == 0) {
                return p;
            }
            return axis == 1 ? q : r;
        }

        private long energy() {
            long energy = 0;
            for (int axis = 0; axis < 3; axis++) {
                energy += (long) moment(axis) * spin(axis) * spin(axis);
            }
            return energy;
        }

        private long momentumSquare() {
            long square = 0;
            for (int axis = 0; axis < 3; axis++) {
                long momentum = (long) moment(axis) * spin(axis);
                square += momentum * momentum;
            }
            return square;
        }

        private char firm(int axis) {
            int own = moment(axis);
            int one = moment((axis + 1) % 3);
            int two = moment((axis + 2) % 3);
            if ((own > one && own > two) || (own < one && own < two)) {
                return 'f';
            }
            if ((own > one && own < two) || (own < one && own > two)) {
                return 'l';
            }
            return '-';
        }

        private char spinAxis() {
            int least = Math.min(moment(0), Math.min(moment(1), moment(2)));
            int greatest = Math.max(moment(0), Math.max(moment(1), moment(2)));
            long middle = (long) moment(0) + moment(1) + moment(2) - least - greatest;
            long side = momentumSquare() - energy() * middle;
            if (side == 0) {
                return '-';
            }
            return axisOfMoment(side > 0 ? greatest : least);
        }

        private char axisOfMoment(int moment) {
            if (moment(0) == moment) {
                return 'x';
            }
            return moment(1) == moment ? 'y' : 'z';
        }

        private long turnedPlace(int mass, int axis) {
            if (mass < 0 || mass >= MOST_MASSES) {
                return 0;
            }
            long times = turned.rowTimes(axis, xs[mass], ys[mass], zs[mass]);
            return floorQuotient(1000 * times, turned.squares());
        }

        private boolean momentsFit() {
            int a = moment(0);
            int b = moment(1);
            int c = moment(2);
            return a <= b + c && b <= a + c && c <= a + b;
        }
    }

    /** A turn by four numbers, which never change. */
    private static final class Turn {
        private static final int LIMIT = 30000;

        private final long w;
        private final long x;
        private final long y;
        private final long z;

        private Turn(long w, long x, long y, long z) {
            this.w = w;
            this.x = x;
            this.y = y;
            this.z = z;
        }

        private Turn behind(Turn first) {
            return new Turn(
                w * first.w - x * first.x - y * first.y - z * first.z,
                w * first.x + x * first.w + y * first.z - z * first.y,
                w * first.y - x * first.z + y * first.w + z * first.x,
                w * first.z + x * first.y - y * first.x + z * first.w);
        }

        private Turn least() {
            long divisor = divisor();
            if (divisor == 0) {
                return this;
            }
            long by = leads() < 0 ? -divisor : divisor;
            return by == 0 ? this : new Turn(w / by, x / by, y / by, z / by);
        }

        private boolean isLeast() {
            return divisor() == 1 && leads() > 0;
        }

        private long divisor() {
            return commonDivisor(commonDivisor(w, x), commonDivisor(y, z));
        }

        /** The first number that is not 0. */
        private long leads() {
            if (w != 0) {
                return w;
            }
            if (x != 0) {
                return x;
            }
            return y != 0 ? y : z;
        }

        private boolean isNone() {
            return w == 1 && x == 0 && y == 0 && z == 0;
        }

        private boolean isBeyond() {
            return Math.abs(w) > LIMIT || Math.abs(x) > LIMIT || Math.abs(y) > LIMIT || Math.abs(z) > LIMIT;
        }

        private long number(int index) {
            if (index == 0) {
                return w;
            }
            if (index == 1) {
                return x;
            }
            return index == 2 ? y : z;
        }

        private long squares() {
            return w * w + x * x + y * y + z * z;
        }

        /** A row of the turn's matrix, not yet divided by the squares, times a place. */
        private long rowTimes(int axis, long a, long b, long c) {
            if (axis == 0) {
                return (w * w + x * x - y * y - z * z) * a + 2 * (x * y - w * z) * b + 2 * (x * z + w * y) * c;
            }
            if (axis == 1) {
                return 2 * (x * y + w * z) * a + (w * w - x * x + y * y - z * z) * b + 2 * (y * z - w * x) * c;
            }
            return 2 * (x * z - w * y) * a + 2 * (y * z + w * x) * b + (w * w - x * x - y * y + z * z) * c;
        }
    }

    /** A top; the spins from which it sleeps and nods follow from its moments and its weight. */
    private static final class Top {
        private static final int MOST_SPIN = 9999;
        // without pushes it can only go from sleeping to nodding and from there to lying
        private static final int MOST_CHANGES = 2;

        private final int loss;
        private final int sleepFrom;
        private final int nodFrom;
        private int spin;
        private char state;

        private Top(int spin, int loss, int c, int a, int weight) {
            long need = 4L * a * weight;
            this.loss = loss;
            this.sleepFrom = leastSpin(c, need);
            // 4 times the square of a number is the square of its double
            this.nodFrom = leastSpin(2 * c, need);
            this.spin = spin;
            settle();
        }

        private static int leastSpin(int factor, long need) {
            for (int spin = 0; spin <= MOST_SPIN; spin++) {
                long much = (long) factor * spin;
                if (much * much >= need) {
                    return spin;
                }
            }
            return MOST_SPIN + 1;
        }

        private boolean lies() {
            return state == 'f';
        }

        /** Brings the state to the spin; answers how many changes that makes. */
        private int settle() {
            char before = state;
            if (spin >= sleepFrom) {
                state = 's';
            } else if (spin >= nodFrom) {
                state = 'n';
            } else {
                state = 'f';
                spin = 0;
            }
            return state == before ? 0 : 1;
        }

        private int quicken(int by) {
            spin = Math.min(MOST_SPIN, spin + by);
            return settle();
        }

        private int pass(int ticks) {
            int changes = 0;
            int left = ticks;
            for (int part = 0; part < MOST_CHANGES && left > 0 && !lies(); part++) {
                int now = Math.min(left, ticksToChange());
                spin = Math.max(0, spin - now * loss);
                left -= now;
                changes += settle();
            }
            return changes;
        }

        private int ticksToChange() {
            return ticksToBelow(state == 's' ? sleepFrom : nodFrom);
        }

        private int ticksToFall() {
            return ticksToBelow(nodFrom);
        }

        private int ticksToBelow(int limit) {
            return spin < limit || loss == 0 ? 0 : (spin - limit) / loss + 1;
        }

        private boolean standsRightly() {
            return lies() || spin >= nodFrom;
        }
    }

    /** Three rings round a wheel. */
    private static final class Cage {
        private final int[] angles = new int[3];
        private int momentum = 1000;
        private int kept;

        private int turnedRing(int ring, int degrees) {
            if (ring < 0 || ring >= angles.length) {
                return 0;
            }
            angles[ring] = Math.floorMod(angles[ring] + degrees, WHOLE_TURN);
            return angles[ring];
        }

        private boolean locks() {
            return angles[1] == 90 || angles[1] == 270;
        }

        private int giveWay(int push) {
            if (momentum == 0) {
                return angles[0];
            }
            int whole = kept + push;
            kept = whole % momentum;
            return turnedRing(0, whole / momentum);
        }

        private boolean keepsLittle() {
            return Math.abs(kept) < momentum;
        }
    }

    /** A cat, of which the front and the back are turned by exact fractions. */
    private static final class Cat {
        private int frontMoment = 10;
        private int backMoment = 10;
        private Fraction front = new Fraction(0, 1);
        private Fraction back = new Fraction(0, 1);
        private int twisted;

        private int foldPart(boolean isFront, int moment) {
            int before = isFront ? frontMoment : backMoment;
            if (isFront) {
                frontMoment = moment;
            } else {
                backMoment = moment;
            }
            return before;
        }

        private Fraction frontAfter(int degrees) {
            return front.plus(degrees * backMoment, frontMoment + backMoment);
        }

        private Fraction backAfter(int degrees) {
            return back.plus(-degrees * frontMoment, frontMoment + backMoment);
        }
    }

    /** A fraction in lowest terms, which never changes. */
    private static final class Fraction {
        private static final long LIMIT = 1000000000000L;

        private final long above;
        private final long below;

        private Fraction(long above, long below) {
            this.above = above;
            this.below = below;
        }

        private Fraction plus(long otherAbove, long otherBelow) {
            long sum = above * otherBelow + otherAbove * below;
            long parts = below * otherBelow;
            long divisor = commonDivisor(sum, parts);
            return divisor == 0 ? this : new Fraction(sum / divisor, parts / divisor);
        }

        private boolean isBeyond() {
            return Math.abs(above) > LIMIT || below > LIMIT;
        }
    }

    /** A wheel for each axis, with the drift that it could not take. */
    private static final class Craft {
        private static final int MOST_SPEED = 6000;

        private final int[] speeds = new int[3];
        private final long[] drifts = new long[3];

        private boolean hasWheel(int axis) {
            return axis >= 0 && axis < 3;
        }

        private int drive(int axis, int by) {
            if (!hasWheel(axis)) {
                return 0;
            }
            int whole = speeds[axis] + by;
            int taken = Math.max(-MOST_SPEED, Math.min(MOST_SPEED, whole));
            speeds[axis] = taken;
            drifts[axis] += whole - taken;
            return taken;
        }

        private long drift(int axis) {
            return hasWheel(axis) ? drifts[axis] : 0;
        }

        private int slow(int axis, int by) {
            if (!hasWheel(axis)) {
                return 0;
            }
            int speed = speeds[axis];
            speeds[axis] = speed > 0 ? Math.max(0, speed - by) : Math.min(0, speed + by);
            return speeds[axis];
        }

        private boolean isWithinSpeed() {
            for (int speed : speeds) {
                if (speed < -MOST_SPEED || speed > MOST_SPEED) {
                    return false;
                }
            }
            return true;
        }
    }

    /** Photographs of a thing that spins. */
    private static final class Album {
        private static final int MOST_PHOTOGRAPHS = 6;
        private static final int MOST_RATE = 1800;

        private final int[] gaps = new int[MOST_PHOTOGRAPHS];
        private final int[] turns = new int[MOST_PHOTOGRAPHS];
        private int count;

        private static int look(int rate, int gap) {
            int rest = Math.floorMod(rate * gap, WHOLE_TURN);
            return rest > WHOLE_TURN / 2 ? rest - WHOLE_TURN : rest;
        }

        private boolean isFull() {
            return count < 0 || count >= MOST_PHOTOGRAPHS;
        }

        private void take(int gap, int turn) {
            if (isFull()) {
                return;
            }
            gaps[count] = gap;
            turns[count] = turn;
            count++;
        }

        private boolean suits(int rate) {
            for (int i = 0; i < count && i < MOST_PHOTOGRAPHS; i++) {
                if (look(rate, gaps[i]) != turns[i]) {
                    return false;
                }
            }
            return true;
        }

        private int countSuiting() {
            int suiting = 0;
            for (int rate = -MOST_RATE; rate <= MOST_RATE; rate++) {
                if (suits(rate)) {
                    suiting++;
                }
            }
            return suiting;
        }
    }
}
