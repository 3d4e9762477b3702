import java.util.NoSuchElementException;
import java.util.function.Supplier;

/** The edges of promises 19 to 27, and of what the Terms say of tops. */
final class TopEdges {
    private static final Class<?> FULL = IllegalStateException.class;
    private static final Class<?> NONE = NoSuchElementException.class;
    private static final Class<?> LIES = UnsupportedOperationException.class;

    private TopEdges() {
    }

    static void all() {
        addTop();
        addTopRefused();
        stateOf();
        spinOf();
        pushTop();
        pushTopRefused();
        run();
        events();
        nextEvent();
        standing();
        placeAt();
        terms();
        termOfStates();
        termsOfTicksAndEvents();
    }

    /** It sleeps from 200 and nods from 100. */
    private static Supplier<SpinHall> top(int spin, int loss) {
        return () -> Halls.withTop(spin, loss);
    }

    /** It stood, and lies now. */
    private static SpinHall fallen() {
        SpinHall hall = Halls.withTop(110, 11);
        hall.run(1);
        return hall;
    }

    private static SpinHall ran(SpinHall hall, int ticks) {
        hall.run(ticks);
        return hall;
    }

    private static void addTop() {
        Sentence.of(19, "Adds a top.");
        Check.due("spinOf(0)", Halls.withTop(300, 10).spinOf(0), 300);
        Check.due("spinOf the first behind a second", Halls.withTops(300, 1, 1, 1, 1, 400, 2, 2, 2, 2).spinOf(0), 300);
        Sentence.of(19, "`spin`: 1 to 9999");
        Edge.inside("spinOf behind addTop", Halls::none, 1, 1, 9999, 9999, (h, n) -> {
            h.addTop(n, 1, 1, 1, 1);
            return h.spinOf(0);
        });
        Edge.outside("addTop spin", Halls::busy, 1, 9999, (h, n) -> h.addTop(n, 1, 1, 1, 1));
        Sentence.of(19, "`loss`: 1 to 99");
        Edge.inside("spinOf behind addTop and a tick", Halls::none, 1, 9998, 99, 9900, (h, n) -> {
            h.addTop(9999, n, 1, 1, 1);
            h.run(1);
            return h.spinOf(0);
        });
        Edge.outside("addTop loss", Halls::busy, 1, 99, (h, n) -> h.addTop(1, n, 1, 1, 1));
        Sentence.of(19, "`c`: 1 to 9");
        Edge.inside("stateOf behind addTop", Halls::none, 1, 'n', 9, 's', (h, n) -> {
            h.addTop(100, 1, n, 1, 10000);
            return h.stateOf(0);
        });
        Edge.outside("addTop c", Halls::busy, 1, 9, (h, n) -> h.addTop(1, 1, n, 1, 1));
        Sentence.of(19, "`a`: 1 to 9");
        Edge.inside("stateOf behind addTop", Halls::none, 1, 's', 9, 'f', (h, n) -> {
            h.addTop(200, 1, 1, n, 10000);
            return h.stateOf(0);
        });
        Edge.outside("addTop a", Halls::busy, 1, 9, (h, n) -> h.addTop(1, 1, 1, n, 1));
        Sentence.of(19, "`weight`: 1 to 99999");
        Edge.inside("stateOf behind addTop", Halls::none, 1, 's', 99999, 'n', (h, n) -> {
            h.addTop(400, 1, 1, 1, n);
            return h.stateOf(0);
        });
        Edge.outside("addTop weight", Halls::busy, 1, 99999, (h, n) -> h.addTop(1, 1, 1, 1, n));
        Sentence.of(19, "Returns its number.");
        Check.due("the first", new SpinHall().addTop(1, 1, 1, 1, 1), 0);
        Check.due("one that lies at once", Halls.withTop(300, 1).addTop(1, 1, 1, 9, 99999), 1);
        SpinHall seven = new SpinHall();
        for (int top = 0; top < 7; top++) {
            seven.addTop(9999, 99, 9, 9, 99999);
        }
        Check.due("the eighth", seven.addTop(1, 1, 1, 1, 1), 7);
    }

    private static void addTopRefused() {
        Sentence.of(19, "Throws `IllegalArgumentException` if a number is out of range");
        Edge.outside("addTop spin with 8", Halls::full, 1, 9999, (h, n) -> h.addTop(n, 1, 1, 1, 1));
        Edge.outside("addTop loss with 8", Halls::full, 1, 99, (h, n) -> h.addTop(1, n, 1, 1, 1));
        Edge.outside("addTop c with 8", Halls::full, 1, 9, (h, n) -> h.addTop(1, 1, n, 1, 1));
        Edge.outside("addTop a with 8", Halls::full, 1, 9, (h, n) -> h.addTop(1, 1, 1, n, 1));
        Edge.outside("addTop weight with 8", Halls::full, 1, 99999, (h, n) -> h.addTop(1, 1, 1, 1, n));
        Sentence.of(19, "Throws `IllegalStateException` if there are 8");
        Check.refused(Halls::withEightTops, "the ninth", FULL, h -> h.addTop(1, 1, 1, 1, 1));
        Check.refused(Halls::full, "the ninth, the greatest", FULL, h -> h.addTop(9999, 99, 9, 9, 99999));
        Check.refused(() -> ran(Halls.withEightTops(), 999), "the ninth when all lie", FULL,
            h -> h.addTop(9, 9, 9, 9, 9));
    }

    private static void stateOf() {
        Sentence.of(20, "Returns the state of a top.");
        Check.due("the greatest", Halls.withTops(9999, 99, 9, 1, 1).stateOf(0), 's');
        Check.due("the least spin with the greatest weight", Halls.withTops(1, 1, 1, 9, 99999).stateOf(0), 'f');
        Sentence.of(20, "`top`: the top");
        Edge.inside("stateOf", Halls::full, 0, 's', 7, 'f', SpinHall::stateOf);
        Sentence.of(20, "Returns 's', 'n' or 'f'.");
        Check.due("s", Halls.busy().stateOf(0), 's');
        Check.due("n", Halls.busy().stateOf(1), 'n');
        Check.due("f", Halls.busy().stateOf(2), 'f');
        Sentence.of(20, "Throws `IndexOutOfBoundsException` if there is no such top");
        Edge.noTop("stateOf", SpinHall::stateOf);
    }

    private static void spinOf() {
        Sentence.of(21, "Returns the spin of a top.");
        Check.due("the least", Halls.withTops(1, 1, 1, 1, 1).spinOf(0), 1);
        Check.due("the greatest", Halls.withTops(9999, 1, 1, 1, 1).spinOf(0), 9999);
        Sentence.of(21, "`top`: the top");
        Edge.inside("spinOf", Halls::full, 0, 9108, 7, 0, SpinHall::spinOf);
        Sentence.of(21, "Returns the spin.");
        Check.due("at the bound", Halls.withTop(100, 1).spinOf(0), 100);
        Check.due("of one that lies at once", Halls.withTop(99, 1).spinOf(0), 0);
        Check.due("of one that fell", fallen().spinOf(0), 0);
        Sentence.of(21, "Throws `IndexOutOfBoundsException` if there is no such top");
        Edge.noTop("spinOf", SpinHall::spinOf);
    }

    private static void pushTop() {
        Sentence.of(22, "Pushes a top, by which its spin becomes more.");
        SpinHall two = Halls.withTops(300, 1, 1, 1, 10000, 400, 1, 1, 1, 10000);
        two.pushTop(1, 5);
        Check.due("spinOf the pushed one", two.spinOf(1), 405);
        Check.due("spinOf the other one", two.spinOf(0), 300);
        Sentence.of(22, "`top`: the top");
        Edge.inside("pushTop", Halls::withEightTops, 0, 301, 7, 308, (h, n) -> h.pushTop(n, 1));
        Sentence.of(22, "`by`: 1 to 9999");
        Edge.inside("pushTop", top(300, 10), 1, 301, 9999, 9999, (h, n) -> h.pushTop(0, n));
        Edge.outside("pushTop", Halls::busy, 1, 9999, (h, n) -> h.pushTop(0, n));
        Sentence.of(22, "Returns the spin, 9999 at most.");
        Check.due("9998", Halls.withTop(300, 1).pushTop(0, 9698), 9998);
        Check.due("9999", Halls.withTop(300, 1).pushTop(0, 9699), 9999);
        Check.due("9999, and 1 lost", Halls.withTop(300, 1).pushTop(0, 9700), 9999);
        Check.due("from 9998", Halls.withTop(9998, 1).pushTop(0, 1), 9999);
        Check.due("from 9999", Halls.withTop(9999, 1).pushTop(0, 1), 9999);
        Check.due("from 9999 by the most", Halls.withTop(9999, 1).pushTop(0, 9999), 9999);
        SpinHall full = Halls.withTop(9999, 99);
        full.pushTop(0, 9999);
        full.run(1);
        Check.due("what is beyond 9999 is lost", full.spinOf(0), 9900);
    }

    private static void pushTopRefused() {
        Sentence.of(22, "Throws `IndexOutOfBoundsException` if there is no such top");
        Edge.noTop("pushTop", (h, n) -> h.pushTop(n, 1));
        Edge.noTop("pushTop by 0", (h, n) -> h.pushTop(n, 0));
        Edge.noTop("pushTop by 10000", (h, n) -> h.pushTop(n, 10000));
        Sentence.of(22, "Throws `IllegalArgumentException` if a number is out of range");
        Edge.outside("pushTop of one that nods", Halls::busy, 1, 9999, (h, n) -> h.pushTop(1, n));
        Edge.outside("pushTop of one that lies", Halls::busy, 1, 9999, (h, n) -> h.pushTop(2, n));
        Edge.outside("pushTop in the full hall", Halls::full, 1, 9999, (h, n) -> h.pushTop(0, n));
        Sentence.of(22, "Throws `UnsupportedOperationException` if it lies");
        Check.refused(top(99, 1), "one that lies at once", LIES, h -> h.pushTop(0, 1));
        Check.refused(TopEdges::fallen, "one that fell", LIES, h -> h.pushTop(0, 9999));
        Check.refused(Halls::full, "the last one of eight", LIES, h -> h.pushTop(7, 9999));
        Check.due("one that stands at the bound", Halls.withTop(100, 1).pushTop(0, 1), 101);
    }

    private static SpinHall eightThatSleep() {
        SpinHall hall = new SpinHall();
        for (int top = 0; top < 8; top++) {
            hall.addTop(9999, 99, 1, 1, 10000);
        }
        return hall;
    }

    private static void run() {
        Sentence.of(23, "Lets ticks go by.");
        Check.due("spinOf behind run(3)", ran(Halls.withTop(300, 10), 3).spinOf(0), 270);
        Check.due("spinOf the eighth behind run(3)", ran(Halls.withEightTops(), 3).spinOf(7), 277);
        Sentence.of(23, "`ticks`: 1 to 999");
        Edge.inside("spinOf behind run", top(9999, 1), 1, 9998, 999, 9000, (h, n) -> ran(h, n).spinOf(0));
        Edge.outside("run", Halls::busy, 1, 999, SpinHall::run);
        Sentence.of(23, "Returns how many events there were.");
        Check.due("run without tops", new SpinHall().run(999), 0);
        Check.due("run of one that lies", Halls.withTop(99, 1).run(999), 0);
        Check.due("run to one tick ahead of an event", Halls.withTop(300, 10).run(10), 0);
        Check.due("run to the event", Halls.withTop(300, 10).run(11), 1);
        Check.due("run to one tick ahead of the second event", Halls.withTop(300, 10).run(20), 1);
        Check.due("run to the second event", Halls.withTop(300, 10).run(21), 2);
        Check.due("run on beyond it", Halls.withTop(300, 10).run(999), 2);
        Check.due("run of eight", eightThatSleep().run(999), 16);
        Check.due("run of eight, again", ran(eightThatSleep(), 999).run(999), 0);
        Sentence.of(23, "Throws `IllegalArgumentException` if a number is out of range");
        Edge.outside("run without tops", Halls::none, 1, 999, SpinHall::run);
        Edge.outside("run in the full hall", Halls::full, 1, 999, SpinHall::run);
    }

    private static void events() {
        Sentence.of(24, "Returns how many events there were in all.");
        Check.due("in the empty hall", new SpinHall().events(), 0);
        Check.due("behind tops that are added", Halls.withEightTops().events(), 0);
        Check.due("behind one that lies at once", Halls.withTop(99, 1).events(), 0);
        SpinHall hall = eightThatSleep();
        hall.run(999);
        Check.due("of eight", hall.events(), 16);
        hall.run(999);
        Check.due("of eight that lie", hall.events(), 16);
        Sentence.of(24, "Returns how many.");
        SpinHall pushed = Halls.withTop(199, 10);
        for (int time = 1; time <= 99; time++) {
            pushed.pushTop(0, 10);
            pushed.run(1);
            Check.due("behind a push to sleep and a tick to nodding", pushed.events(), 2 * time);
        }
    }

    private static void dueNext(String what, SpinHall hall, int want) {
        Check.due("nextEvent, " + what, hall.nextEvent(0), want);
        if (want > 1) {
            Check.due("run to one tick ahead, " + what, hall.run(want - 1), 0);
        }
        Check.due("run of one tick more, " + what, hall.run(1), 1);
    }

    private static void nextEvent() {
        Sentence.of(25, "Returns in how many ticks a top has its next event, without pushes.");
        dueNext("200, nodding at 190", Halls.withTop(200, 10), 1);
        dueNext("209, nodding at 199", Halls.withTop(209, 10), 1);
        dueNext("210, nodding at 190", Halls.withTop(210, 10), 2);
        dueNext("199, falling at 99", Halls.withTop(199, 10), 10);
        dueNext("200 by 99, nodding at 101", Halls.withTop(200, 99), 1);
        dueNext("falling without nodding", Halls.withTops(1, 99, 9, 1, 1), 1);
        dueNext("falling at 0", Halls.withTops(990, 99, 9, 1, 1), 10);
        Sentence.of(25, "`top`: the top");
        Edge.inside("nextEvent", Halls::withEightTops, 0, 11, 7, 11, SpinHall::nextEvent);
        Edge.inside("nextEvent", Halls::full, 0, 92, 6, 1, SpinHall::nextEvent);
        Sentence.of(25, "Returns how many, 1 or more.");
        Check.due("the least", Halls.withTop(200, 1).nextEvent(0), 1);
        Check.due("the least of one that nods", Halls.withTop(100, 1).nextEvent(0), 1);
        Check.due("the most", Halls.withTops(9999, 1, 9, 1, 1).nextEvent(0), 9999);
        Sentence.of(25, "Throws `IndexOutOfBoundsException` if there is no such top");
        Edge.noTop("nextEvent", SpinHall::nextEvent);
        Sentence.of(25, "Throws `NoSuchElementException` if it lies");
        Check.refused(top(99, 1), "nextEvent of one that lies at once", NONE, h -> h.nextEvent(0));
        Check.refused(TopEdges::fallen, "nextEvent of one that fell", NONE, h -> h.nextEvent(0));
        Check.refused(Halls::full, "nextEvent of the last one of eight", NONE, h -> h.nextEvent(7));
    }

    private static void dueStanding(String what, SpinHall hall, int want) {
        Check.due("standing, " + what, hall.standing(0), want);
        for (int left = want; left > 0; left -= 999) {
            Check.due("stateOf till then, " + what, hall.stateOf(0) != 'f', true);
            hall.run(Math.min(left, 999));
        }
        Check.due("stateOf then, " + what, hall.stateOf(0), 'f');
        Check.due("standing then, " + what, hall.standing(0), 0);
    }

    private static void standing() {
        Sentence.of(26, "Returns in how many ticks a top falls, without pushes.");
        dueStanding("200 by 10", Halls.withTop(200, 10), 11);
        dueStanding("209 by 10", Halls.withTop(209, 10), 11);
        dueStanding("210 by 10", Halls.withTop(210, 10), 12);
        dueStanding("109 by 10", Halls.withTop(109, 10), 1);
        dueStanding("110 by 10", Halls.withTop(110, 10), 2);
        dueStanding("falling at 0", Halls.withTops(990, 99, 9, 1, 1), 10);
        Sentence.of(26, "`top`: the top");
        Edge.inside("standing", Halls::full, 0, 92, 7, 0, SpinHall::standing);
        Sentence.of(26, "Returns how many, 0 if it lies.");
        Check.due("one that lies at once", Halls.withTop(99, 1).standing(0), 0);
        Check.due("one that fell", fallen().standing(0), 0);
        Check.due("one that stands at the bound", Halls.withTop(100, 99).standing(0), 1);
        dueStanding("the most", Halls.withTops(9999, 1, 1, 1, 1), 9999);
        Sentence.of(26, "Throws `IndexOutOfBoundsException` if there is no such top");
        Edge.noTop("standing", SpinHall::standing);
    }

    private static String ranks(SpinHall hall, int count) {
        StringBuilder ranks = new StringBuilder();
        for (int rank = 0; rank < count; rank++) {
            ranks.append(hall.placeAt(rank));
        }
        return ranks.toString();
    }

    private static SpinHall eightUnlike() {
        // they stand 0, 21, 3, 21, 0, 1, 9999 and 3 ticks
        return Halls.withTops(99, 1, 1, 1, 10000, 300, 10, 1, 1, 10000, 150, 25, 1, 1, 10000, 300, 10, 1, 1, 10000,
            1, 1, 1, 9, 99999, 100, 1, 1, 1, 10000, 9999, 1, 1, 1, 1, 150, 25, 1, 1, 10000);
    }

    private static void placeAt() {
        Sentence.of(27, "Returns a top by its rank: those that stand longest from now first, of like ones the "
            + "lower number; those that lie too.");
        Check.due("eight unlike ones", ranks(eightUnlike(), 8), "61327504");
        Check.due("eight that stand alike", ranks(eightThatSleep(), 8), "01234567");
        Check.due("eight that lie", ranks(ran(eightThatSleep(), 999), 8), "01234567");
        Check.due("one that lies", ranks(Halls.withTop(99, 1), 1), "0");
        Check.due("one tick later", ranks(ran(eightUnlike(), 1), 8), "61327045");
        Check.due("more by a tick", ranks(Halls.withTops(100, 1, 1, 1, 10000, 101, 1, 1, 1, 10000), 2), "10");
        Check.due("more spin, but as long", ranks(Halls.withTops(100, 10, 1, 1, 10000, 109, 10, 1, 1, 10000), 2), "01");
        Check.due("more spin, but not as long", ranks(Halls.withTops(300, 99, 1, 1, 10000, 120, 1, 1, 1, 10000), 2),
            "10");
        Sentence.of(27, "`rank`: the rank, from 0");
        Edge.inside("placeAt", TopEdges::eightUnlike, 0, 6, 7, 4, SpinHall::placeAt);
        Sentence.of(27, "Returns the top.");
        Check.due("in the full hall", ranks(Halls.full(), 8), "01234567");
        Sentence.of(27, "Throws `NoSuchElementException` if there is no such rank");
        for (int rank : new int[] {-1, 0, 7, Integer.MIN_VALUE, Integer.MAX_VALUE}) {
            Edge.refusedWith("placeAt in the empty hall", Halls::none, NONE, rank, SpinHall::placeAt);
        }
        for (int rank : new int[] {-1, 3, 7, 8, Integer.MIN_VALUE, Integer.MAX_VALUE}) {
            Edge.refusedWith("placeAt in the busy hall", Halls::busy, NONE, rank, SpinHall::placeAt);
        }
        for (int rank : new int[] {-1, 8, Integer.MIN_VALUE, Integer.MAX_VALUE}) {
            Edge.refusedWith("placeAt in the full hall", Halls::full, NONE, rank, SpinHall::placeAt);
        }
    }

    private static void terms() {
        Sentence.term("At most 8 are numbered from 0, each with a spin, 1 to 9999, a loss, 1 to 99, two moments, c "
            + "about its axis and a across, 1 to 9, and a weight, 1 to 99999.");
        SpinHall hall = new SpinHall();
        for (int top = 0; top < 8; top++) {
            boolean isLeast = top % 2 == 0;
            int got = isLeast ? hall.addTop(1, 1, 1, 1, 1) : hall.addTop(9999, 99, 9, 9, 99999);
            Check.due("addTop at an end of all ranges", got, top);
        }
        Check.due("stateOf the least", hall.stateOf(6), 'n');
        Check.due("stateOf the greatest", hall.stateOf(7), 's');
        Check.refused(Halls::withEightTops, "a ninth one", FULL, h -> h.addTop(9999, 99, 9, 9, 99999));
        Check.refused(Halls::busy, "all beyond the most", Edge.WRONG, h -> h.addTop(10000, 100, 10, 10, 100000));
        Check.refused(Halls::busy, "all beyond the least", Edge.WRONG, h -> h.addTop(0, 0, 0, 0, 0));
    }

    private static void dueState(String what, int spin, int c, int a, int weight, char want) {
        Check.due("stateOf, " + what, Halls.withTops(spin, 1, c, a, weight).stateOf(0), want);
        Check.due("spinOf, " + what, Halls.withTops(spin, 1, c, a, weight).spinOf(0), want == 'f' ? 0 : spin);
    }

    private static void termOfStates() {
        Sentence.term("It sleeps 's', if the square of c times the spin is at least 4 times a times the weight, "
            + "nods 'n', if 4 times that square is, otherwise it falls 'f', and lies for good, with the spin 0.");
        dueState("40000 of 40000", 200, 1, 1, 10000, 's');
        dueState("40000 of 40004", 200, 1, 1, 10001, 'n');
        dueState("39601 of 40000", 199, 1, 1, 10000, 'n');
        dueState("4 times 10000 of 40000", 100, 1, 1, 10000, 'n');
        dueState("4 times 10000 of 40004", 100, 1, 1, 10001, 'f');
        dueState("4 times 9801 of 40000", 99, 1, 1, 10000, 'f');
        dueState("with c 9, 810000 of 810000", 100, 9, 9, 22500, 's');
        dueState("with c 9, 810000 of 810036", 100, 9, 9, 22501, 'n');
        dueState("with c 9, 4 times 202500 of 810000", 50, 9, 9, 22500, 'n');
        dueState("with c 9, 4 times 202500 of 810036", 50, 9, 9, 22501, 'f');
        dueState("the greatest weight and a, at the bound of sleep", 1898, 1, 9, 99999, 's');
        dueState("the greatest weight and a, below it", 1897, 1, 9, 99999, 'n');
        dueState("the greatest weight and a, at the bound of nodding", 949, 1, 9, 99999, 'n');
        dueState("the greatest weight and a, below that", 948, 1, 9, 99999, 'f');
        dueState("1 of 4", 1, 1, 1, 1, 'n');
        dueState("4 of 4", 2, 1, 1, 1, 's');
        dueState("4 times 1 of 8", 1, 1, 1, 2, 'f');
        dueState("4 of 4 by c", 1, 2, 1, 1, 's');
        dueState("the greatest spin", 9999, 9, 9, 99999, 's');
        SpinHall fell = fallen();
        for (int time = 0; time < 9; time++) {
            fell.run(999);
            Check.due("stateOf one that fell", fell.stateOf(0), 'f');
            Check.due("spinOf one that fell", fell.spinOf(0), 0);
        }
        Check.due("events() of one that fell", fell.events(), 1);
    }

    private static void termsOfTicksAndEvents() {
        Sentence.term("In each tick that does not lie each loses its loss of spin, not below 0.");
        Check.due("1 of 300", ran(Halls.withTop(300, 1), 1).spinOf(0), 299);
        Check.due("99 of 300", ran(Halls.withTop(300, 99), 1).spinOf(0), 201);
        Check.due("99 of 300, twice", ran(Halls.withTop(300, 99), 2).spinOf(0), 102);
        Check.due("to the bound", ran(Halls.withTop(200, 10), 10).spinOf(0), 100);
        Check.due("99 of 99", ran(Halls.withTops(99, 99, 9, 1, 1), 1).spinOf(0), 0);
        Check.due("99 of 98", ran(Halls.withTops(98, 99, 9, 1, 1), 1).spinOf(0), 0);
        Check.due("99 of 100", ran(Halls.withTops(100, 99, 9, 1, 1), 1).spinOf(0), 1);
        Check.due("99 of 100, twice", ran(Halls.withTops(100, 99, 9, 1, 1), 2).spinOf(0), 0);
        Check.due("the one that stands beside one that lies",
            ran(Halls.withTops(99, 1, 1, 1, 10000, 300, 1, 1, 1, 10000), 1).spinOf(1), 299);

        Sentence.term("An event is each change of these states, by a tick or a push.");
        Check.due("from sleep to nodding", Halls.withTop(200, 10).run(1), 1);
        Check.due("from sleep to sleep", Halls.withTop(210, 10).run(1), 0);
        Check.due("from nodding to nodding", Halls.withTop(110, 10).run(1), 0);
        Check.due("from nodding to the floor", Halls.withTop(109, 10).run(1), 1);
        Check.due("from sleep to the floor in one tick", Halls.withTops(1, 1, 2, 1, 1).run(1), 1);
        SpinHall hall = Halls.withTop(198, 1);
        hall.pushTop(0, 1);
        Check.due("a push from nodding to nodding", hall.events(), 0);
        hall.pushTop(0, 1);
        Check.due("a push from nodding to sleep", hall.events(), 1);
        hall.pushTop(0, 9999);
        Check.due("a push from sleep to sleep", hall.events(), 1);
        Check.due("a push from 100 to sleep", pushed(Halls.withTop(100, 1), 100).events(), 1);
        Check.due("a push from 100 to nodding", pushed(Halls.withTop(100, 1), 99).events(), 0);
    }

    private static SpinHall pushed(SpinHall hall, int by) {
        hall.pushTop(0, by);
        return hall;
    }
}
