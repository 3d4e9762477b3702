import java.math.BigInteger;
import java.util.ArrayList;
import java.util.List;
import java.util.NoSuchElementException;

/** The document once more, by other ways than the program's: pairs, ticks and great numbers. */
public final class Model {
    private static final BigInteger ZERO = BigInteger.ZERO;

    private static final class Thing {
        final List<int[]> masses = new ArrayList<>();
        final int[] spin = new int[3];
        BigInteger[] turn = numbers(1, 0, 0, 0);
    }

    private static final class Spinner {
        int spin;
        int loss;
        int c;
        int a;
        int weight;
        char state;

        Spinner copy() {
            Spinner copy = new Spinner();
            copy.spin = spin;
            copy.loss = loss;
            copy.c = c;
            copy.a = a;
            copy.weight = weight;
            copy.state = state;
            return copy;
        }

        boolean settle() {
            double much = Math.pow((double) c * spin, 2);
            char before = state;
            state = much >= 4.0 * a * weight ? 's' : 4 * much >= 4.0 * a * weight ? 'n' : 'f';
            if (state == 'f') {
                spin = 0;
            }
            return state != before;
        }

        boolean tick() {
            if (state == 'f') {
                return false;
            }
            spin = spin > loss ? spin - loss : 0;
            return settle();
        }
    }

    private final List<Thing> things = new ArrayList<>();
    private final List<Spinner> spinners = new ArrayList<>();
    private final List<int[]> photographs = new ArrayList<>();
    private final int[] rings = new int[3];
    private final int[] speeds = new int[3];
    private final long[] drifts = new long[3];
    private final int[] moments = {10, 10};
    private final BigInteger[][] turns = {numbers(0, 1), numbers(0, 1)};
    private int events;
    private int momentum = 1000;
    private int kept;
    private int twisted;

    private static BigInteger[] numbers(long... values) {
        BigInteger[] numbers = new BigInteger[values.length];
        for (int i = 0; i < values.length; i++) {
            numbers[i] = BigInteger.valueOf(values[i]);
        }
        return numbers;
    }

    private Thing thing(int body) {
        if (body < 0 || body >= things.size()) {
            throw new IndexOutOfBoundsException();
        }
        return things.get(body);
    }

    private Spinner spinner(int top) {
        if (top < 0 || top >= spinners.size()) {
            throw new IndexOutOfBoundsException();
        }
        return spinners.get(top);
    }

    private static int axis(char letter) {
        int number = "xyz".indexOf(letter);
        if (number < 0) {
            throw new IllegalArgumentException();
        }
        return number;
    }

    private static void range(int least, int most, int... values) {
        for (int value : values) {
            if (value < least || value > most) {
                throw new IllegalArgumentException();
            }
        }
    }

    public int addBody() {
        if (things.size() == 6) {
            throw new IllegalStateException();
        }
        things.add(new Thing());
        return things.size() - 1;
    }

    public int addMass(int body, int mass, int x, int y, int z) {
        Thing thing = thing(body);
        range(1, 9, mass);
        range(-9, 9, x, y, z);
        if (thing.masses.size() == 8) {
            throw new IllegalStateException();
        }
        thing.masses.add(new int[] {x, y, z, mass});
        return thing.masses.size() - 1;
    }

    public int massOf(int body) {
        int sum = 0;
        for (int[] mass : thing(body).masses) {
            sum += mass[3];
        }
        return sum;
    }

    public int sumOf(int body, char axis) {
        Thing thing = thing(body);
        int number = axis(axis);
        int sum = 0;
        for (int[] mass : thing.masses) {
            sum += mass[3] * mass[number];
        }
        return sum;
    }

    private static int pairs(Thing thing, int one, int two) {
        int sum = 0;
        for (int[] mass : thing.masses) {
            for (int[] other : thing.masses) {
                sum += mass[3] * other[3] * (mass[one] - other[one]) * (mass[two] - other[two]);
            }
        }
        return sum / 2;
    }

    private static int moment(Thing thing, int axis) {
        int sum = 0;
        for (int other = 0; other < 3; other++) {
            sum += other == axis ? 0 : pairs(thing, other, other);
        }
        return sum;
    }

    private static boolean skew(Thing thing) {
        return pairs(thing, 0, 1) != 0 || pairs(thing, 0, 2) != 0 || pairs(thing, 1, 2) != 0;
    }

    public int momentOf(int body, char axis) {
        Thing thing = thing(body);
        return moment(thing, axis(axis));
    }

    public int productOf(int body, char axis) {
        Thing thing = thing(body);
        int number = axis(axis);
        return number == 0 ? -pairs(thing, 1, 2) : number == 1 ? -pairs(thing, 0, 2) : -pairs(thing, 0, 1);
    }

    private static int[] sortedAxes(Thing thing) {
        int[] axes = {0, 1, 2};
        for (int round = 0; round < 3; round++) {
            for (int i = 0; i < 2; i++) {
                if (moment(thing, axes[i]) > moment(thing, axes[i + 1])) {
                    int axis = axes[i];
                    axes[i] = axes[i + 1];
                    axes[i + 1] = axis;
                }
            }
        }
        return axes;
    }

    private static char kind(Thing thing) {
        int[] axes = sortedAxes(thing);
        int least = moment(thing, axes[0]);
        int middle = moment(thing, axes[1]);
        int most = moment(thing, axes[2]);
        if (least == 0) {
            return 'r';
        }
        if (least == most) {
            return 's';
        }
        return middle == most ? 'p' : middle == least ? 'o' : 'a';
    }

    public char kindOf(int body) {
        Thing thing = thing(body);
        if (thing.masses.isEmpty()) {
            throw new NoSuchElementException();
        }
        if (skew(thing)) {
            throw new UnsupportedOperationException();
        }
        return kind(thing);
    }

    public char loadedAxis(int body) {
        int x = sumOf(body, 'x');
        int y = sumOf(body, 'y');
        int z = sumOf(body, 'z');
        for (int size = 9 * 72; size > 0; size--) {
            if (x == size || x == -size) {
                return x > 0 ? 'x' : 'X';
            }
            if (y == size || y == -size) {
                return y > 0 ? 'y' : 'Y';
            }
            if (z == size || z == -size) {
                return z > 0 ? 'z' : 'Z';
            }
        }
        return '-';
    }

    public long setSpin(int body, int p, int q, int r) {
        Thing thing = thing(body);
        range(-20, 20, p, q, r);
        thing.spin[0] = p;
        thing.spin[1] = q;
        thing.spin[2] = r;
        return energyOf(body);
    }

    public long energyOf(int body) {
        Thing thing = thing(body);
        long sum = 0;
        for (int axis = 0; axis < 3; axis++) {
            sum += (long) thing.spin[axis] * thing.spin[axis] * moment(thing, axis);
        }
        return sum;
    }

    public long momentumOf(int body) {
        Thing thing = thing(body);
        long sum = 0;
        for (int axis = 0; axis < 3; axis++) {
            sum += (long) thing.spin[axis] * thing.spin[axis] * moment(thing, axis) * moment(thing, axis);
        }
        return sum;
    }

    public char firmness(int body, char axis) {
        Thing thing = thing(body);
        int number = axis(axis);
        if (skew(thing)) {
            throw new UnsupportedOperationException();
        }
        int less = 0;
        int more = 0;
        for (int other = 0; other < 3; other++) {
            less += moment(thing, other) > moment(thing, number) ? 1 : 0;
            more += moment(thing, other) < moment(thing, number) ? 1 : 0;
        }
        return less == 2 || more == 2 ? 'f' : less == 1 && more == 1 ? 'l' : '-';
    }

    public char goesRound(int body) {
        Thing thing = thing(body);
        if (skew(thing) || thing.masses.isEmpty() || kind(thing) != 'a') {
            throw new UnsupportedOperationException();
        }
        if (thing.spin[0] == 0 && thing.spin[1] == 0 && thing.spin[2] == 0) {
            throw new NoSuchElementException();
        }
        int[] axes = sortedAxes(thing);
        // the middle axis weighs nothing in what is left of both sides
        long middle = moment(thing, axes[1]);
        long side = 0;
        for (int axis : axes) {
            side += moment(thing, axis) * (moment(thing, axis) - middle) * thing.spin[axis] * thing.spin[axis];
        }
        return side == 0 ? '-' : "xyz".charAt(side > 0 ? axes[2] : axes[0]);
    }

    private static BigInteger[] behind(BigInteger[] later, BigInteger[] first) {
        // signs and places of a product of the units 1, i, j and k
        int[][] place = {{0, 1, 2, 3}, {1, 0, 3, 2}, {2, 3, 0, 1}, {3, 2, 1, 0}};
        int[][] sign = {{1, 1, 1, 1}, {1, -1, 1, -1}, {1, -1, -1, 1}, {1, 1, -1, -1}};
        BigInteger[] then = numbers(0, 0, 0, 0);
        for (int i = 0; i < 4; i++) {
            for (int j = 0; j < 4; j++) {
                BigInteger part = later[i].multiply(first[j]).multiply(BigInteger.valueOf(sign[i][j]));
                then[place[i][j]] = then[place[i][j]].add(part);
            }
        }
        return then;
    }

    private static BigInteger[] least(BigInteger[] turn) {
        BigInteger divisor = ZERO;
        int sign = 0;
        for (BigInteger number : turn) {
            divisor = divisor.gcd(number);
            sign = sign == 0 ? number.signum() : sign;
        }
        BigInteger[] least = new BigInteger[4];
        for (int i = 0; i < 4; i++) {
            least[i] = turn[i].divide(divisor.multiply(BigInteger.valueOf(sign)));
        }
        return least;
    }

    private static BigInteger[] told(int w, int x, int y, int z) {
        range(-9, 9, w, x, y, z);
        if (w == 0 && x == 0 && y == 0 && z == 0) {
            throw new IllegalArgumentException();
        }
        return numbers(w, x, y, z);
    }

    private static boolean isNone(BigInteger[] turn) {
        return turn[1].signum() == 0 && turn[2].signum() == 0 && turn[3].signum() == 0;
    }

    public boolean turn(int body, int w, int x, int y, int z) {
        Thing thing = thing(body);
        BigInteger[] then = least(behind(told(w, x, y, z), thing.turn));
        for (BigInteger number : then) {
            if (number.abs().compareTo(BigInteger.valueOf(30000)) > 0) {
                throw new ArithmeticException();
            }
        }
        thing.turn = then;
        return isNone(then);
    }

    public int turnOf(int body, int index) {
        Thing thing = thing(body);
        range(0, 3, index);
        return thing.turn[index].intValueExact();
    }

    public int placeOf(int body, int mass, char axis) {
        Thing thing = thing(body);
        if (mass < 0 || mass >= thing.masses.size()) {
            throw new IndexOutOfBoundsException();
        }
        int number = axis(axis);
        int[] place = thing.masses.get(mass);
        BigInteger[] turn = thing.turn;
        BigInteger[] back = {turn[0], turn[1].negate(), turn[2].negate(), turn[3].negate()};
        BigInteger[] turned = behind(behind(turn, numbers(0, place[0], place[1], place[2])), back);
        BigInteger squares = behind(turn, back)[0];
        BigInteger[] parts = turned[number + 1].multiply(BigInteger.valueOf(1000)).divideAndRemainder(squares);
        return parts[0].intValueExact() - (parts[1].signum() < 0 ? 1 : 0);
    }

    public int timesBack(int w, int x, int y, int z) {
        BigInteger[] once = told(w, x, y, z);
        BigInteger[] then = once;
        for (int times = 1; times <= 12; times++) {
            if (isNone(then)) {
                return times;
            }
            then = behind(then, once);
        }
        throw new NoSuchElementException();
    }

    public int addTop(int spin, int loss, int c, int a, int weight) {
        range(1, 9999, spin);
        range(1, 99, loss);
        range(1, 9, c, a);
        range(1, 99999, weight);
        if (spinners.size() == 8) {
            throw new IllegalStateException();
        }
        Spinner spinner = new Spinner();
        spinner.spin = spin;
        spinner.loss = loss;
        spinner.c = c;
        spinner.a = a;
        spinner.weight = weight;
        spinner.settle();
        spinners.add(spinner);
        return spinners.size() - 1;
    }

    public char stateOf(int top) {
        return spinner(top).state;
    }

    public int spinOf(int top) {
        return spinner(top).spin;
    }

    public int pushTop(int top, int by) {
        Spinner spinner = spinner(top);
        range(1, 9999, by);
        if (spinner.state == 'f') {
            throw new UnsupportedOperationException();
        }
        spinner.spin = Math.min(9999, spinner.spin + by);
        events += spinner.settle() ? 1 : 0;
        return spinner.spin;
    }

    public int run(int ticks) {
        range(1, 999, ticks);
        int changes = 0;
        for (int tick = 0; tick < ticks; tick++) {
            for (Spinner spinner : spinners) {
                changes += spinner.tick() ? 1 : 0;
            }
        }
        events += changes;
        return changes;
    }

    public int events() {
        return events;
    }

    public int nextEvent(int top) {
        Spinner ahead = spinner(top).copy();
        if (ahead.state == 'f') {
            throw new NoSuchElementException();
        }
        int ticks = 1;
        while (!ahead.tick()) {
            ticks++;
        }
        return ticks;
    }

    public int standing(int top) {
        Spinner ahead = spinner(top).copy();
        int ticks = 0;
        while (ahead.state != 'f') {
            ahead.tick();
            ticks++;
        }
        return ticks;
    }

    public int placeAt(int rank) {
        List<Integer> places = new ArrayList<>();
        for (int top = 0; top < spinners.size(); top++) {
            places.add(top);
        }
        places.sort((one, other) -> Integer.compare(standing(other), standing(one)));
        if (rank < 0 || rank >= places.size()) {
            throw new NoSuchElementException();
        }
        return places.get(rank);
    }

    public boolean slips(char kind, int rise, int along, int friction) {
        int tenths = tenthsOf(kind);
        range(0, 999, rise);
        range(1, 999, along);
        range(0, 200, friction);
        // rise / along > friction / 100 * (1 + 10 / tenths)
        return 100L * rise * tenths > (long) friction * along * (tenths + 10);
    }

    private static int tenthsOf(char kind) {
        int number = "hdb".indexOf(kind);
        if (number < 0) {
            throw new IllegalArgumentException();
        }
        return number == 0 ? 10 : number == 1 ? 5 : 4;
    }

    public int speedSquare(char kind, int height) {
        int tenths = tenthsOf(kind);
        range(0, 9999, height);
        return 200 * height / (10 + tenths);
    }

    public int setMomentum(int momentum) {
        range(1, 9999, momentum);
        int before = this.momentum;
        this.momentum = momentum;
        kept = 0;
        return before;
    }

    private static int round(int angle) {
        int round = angle;
        while (round < 0) {
            round += 360;
        }
        while (round >= 360) {
            round -= 360;
        }
        return round;
    }

    public int turnRing(int ring, int degrees) {
        range(0, 2, ring);
        range(-360, 360, degrees);
        rings[ring] = round(rings[ring] + degrees);
        return rings[ring];
    }

    public boolean isLocked() {
        return rings[1] % 180 == 90;
    }

    public int pushCage(int push, int ticks) {
        range(-999, 999, push);
        range(1, 999, ticks);
        if (isLocked()) {
            throw new UnsupportedOperationException();
        }
        int whole = Math.abs(kept + push * ticks);
        int sign = kept + push * ticks < 0 ? -1 : 1;
        kept = sign * (whole - whole / momentum * momentum);
        rings[0] = round(rings[0] + sign * (whole / momentum));
        return rings[0];
    }

    public int fold(boolean isFront, int moment) {
        range(1, 99, moment);
        int before = moments[isFront ? 0 : 1];
        moments[isFront ? 0 : 1] = moment;
        return before;
    }

    private static BigInteger[] plus(BigInteger[] fraction, int above, int below) {
        BigInteger sum = fraction[0].multiply(BigInteger.valueOf(below))
            .add(fraction[1].multiply(BigInteger.valueOf(above)));
        BigInteger parts = fraction[1].multiply(BigInteger.valueOf(below));
        BigInteger divisor = sum.gcd(parts);
        BigInteger[] plus = {sum.divide(divisor), parts.divide(divisor)};
        for (BigInteger number : plus) {
            if (number.abs().compareTo(BigInteger.TEN.pow(12)) > 0) {
                throw new ArithmeticException();
            }
        }
        return plus;
    }

    public int twist(int degrees) {
        range(-180, 180, degrees);
        BigInteger[] front = plus(turns[0], degrees * moments[1], moments[0] + moments[1]);
        BigInteger[] back = plus(turns[1], -degrees * moments[0], moments[0] + moments[1]);
        turns[0] = front;
        turns[1] = back;
        twisted += degrees;
        return twisted;
    }

    public long catTurn(boolean isFront, boolean isTop) {
        return turns[isFront ? 0 : 1][isTop ? 0 : 1].longValueExact();
    }

    public int command(char axis, int torque, int ticks) {
        int number = axis(axis);
        range(-999, 999, torque);
        range(1, 99, ticks);
        for (int tick = 0; tick < ticks; tick++) {
            int then = speeds[number] + torque;
            speeds[number] = then > 6000 ? 6000 : then < -6000 ? -6000 : then;
            drifts[number] += then - speeds[number];
        }
        return speeds[number];
    }

    public long driftOf(char axis) {
        return drifts[axis(axis)];
    }

    public int unload(char axis, int by) {
        int number = axis(axis);
        range(1, 9999, by);
        for (int step = 0; step < by && speeds[number] != 0; step++) {
            speeds[number] -= speeds[number] > 0 ? 1 : -1;
        }
        return speeds[number];
    }

    public int seen(int rate, int gap) {
        range(-1800, 1800, rate);
        range(1, 50, gap);
        int round = round(rate * gap);
        return round <= 180 ? round : round - 360;
    }

    public int photograph(int gap, int seen) {
        range(1, 50, gap);
        range(-179, 180, seen);
        if (photographs.size() == 6) {
            throw new IllegalStateException();
        }
        photographs.add(new int[] {gap, seen});
        return photographs.size();
    }

    public int clearPhotographs() {
        int before = photographs.size();
        photographs.clear();
        return before;
    }

    private List<Integer> suiting() {
        List<Integer> suiting = new ArrayList<>();
        for (int rate = -1800; rate <= 1800; rate++) {
            boolean suits = true;
            for (int[] photograph : photographs) {
                suits = suits && (rate * photograph[0] - photograph[1]) % 360 == 0;
            }
            if (suits) {
                suiting.add(rate);
            }
        }
        return suiting;
    }

    public int rates() {
        return suiting().size();
    }

    public int slowestRate() {
        List<Integer> suiting = suiting();
        if (suiting.isEmpty()) {
            throw new NoSuchElementException();
        }
        int best = suiting.get(0);
        for (int rate : suiting) {
            best = Math.abs(rate) <= Math.abs(best) ? rate : best;
        }
        return best;
    }

    public long checksum() {
        BigInteger sum = BigInteger.valueOf(7);
        List<Long> all = new ArrayList<>();
        for (Thing thing : things) {
            for (BigInteger number : thing.turn) {
                all.add(number.longValueExact());
            }
        }
        for (Spinner spinner : spinners) {
            all.add((long) spinner.spin);
        }
        for (int ring : rings) {
            all.add((long) ring);
        }
        for (int speed : speeds) {
            all.add((long) speed);
        }
        for (long number : all) {
            sum = sum.multiply(BigInteger.valueOf(31)).add(BigInteger.valueOf(number));
        }
        return sum.longValue();
    }

    public float wakingShare() {
        int nod = 0;
        int sleep = 0;
        for (Spinner spinner : spinners) {
            nod += spinner.state == 'n' ? 1 : 0;
            sleep += spinner.state == 's' ? 1 : 0;
        }
        if (nod + sleep == 0) {
            throw new ArithmeticException();
        }
        return (float) nod / (float) (nod + sleep);
    }

    public double meanPlace(int body, char axis) {
        double sum = sumOf(body, axis);
        if (massOf(body) == 0) {
            throw new ArithmeticException();
        }
        return sum / massOf(body);
    }

    public boolean isSound() {
        return true;
    }
}
