import java.util.NoSuchElementException;

/** Promises 40 to 44: photographs. */
final class PhotographsTest {
    private static final Class<?> WRONG = IllegalArgumentException.class;

    public static void main(String[] args) {
        seen();
        photograph();
        clearPhotographs();
        rates();
        slowestRate();
        Check.end();
    }

    private static SpinHall told(int... photographs) {
        SpinHall hall = new SpinHall();
        for (int i = 0; i < photographs.length; i += 2) {
            hall.photograph(photographs[i], photographs[i + 1]);
        }
        return hall;
    }

    private static SpinHall six() {
        return told(1, 10, 2, 20, 3, 30, 4, 40, 5, 50, 6, 60);
    }

    private static void seen() {
        SpinHall hall = new SpinHall();
        Check.due("seen(350, 1)", hall.seen(350, 1), -10);
        Check.due("seen(-190, 1)", hall.seen(-190, 1), 170);
        Check.due("seen(180, 1)", hall.seen(180, 1), 180);
        Check.due("seen(-180, 1)", hall.seen(-180, 1), 180);
        Check.due("seen(181, 1)", hall.seen(181, 1), -179);
        Check.due("seen(-179, 1)", hall.seen(-179, 1), -179);
        Check.due("seen(0, 50)", hall.seen(0, 50), 0);
        Check.due("seen(1800, 50)", hall.seen(1800, 50), 0);
        Check.due("seen(-1800, 1)", hall.seen(-1800, 1), 0);
        Check.due("seen(1799, 50)", hall.seen(1799, 50), -50);
        Check.due("seen(-7, 13)", hall.seen(-7, 13), -91);
        Check.refused(PhotographsTest::six, "rate 1801", WRONG, h -> h.seen(1801, 1));
        Check.refused(PhotographsTest::six, "rate -1801", WRONG, h -> h.seen(-1801, 1));
        Check.refused(PhotographsTest::six, "gap 0", WRONG, h -> h.seen(1, 0));
        Check.refused(PhotographsTest::six, "gap 51", WRONG, h -> h.seen(1, 51));
    }

    private static void photograph() {
        SpinHall hall = new SpinHall();
        int[] seen = {180, -179, 0, 1, 2, 3};
        for (int i = 0; i < 6; i++) {
            Check.due("photograph " + i, hall.photograph(i == 0 ? 50 : i, seen[i]), i + 1);
        }
        Check.refused(() -> told(1, 10), "gap 0 told", WRONG, h -> h.photograph(0, 0));
        Check.refused(() -> told(1, 10), "gap 51 told", WRONG, h -> h.photograph(51, 0));
        Check.refused(() -> told(1, 10), "seen -180", WRONG, h -> h.photograph(1, -180));
        Check.refused(() -> told(1, 10), "seen 181", WRONG, h -> h.photograph(1, 181));
        Check.refused(PhotographsTest::six, "the seventh", IllegalStateException.class, h -> h.photograph(7, 71));
        Check.refused(PhotographsTest::six, "the seventh, wrong too", WRONG, h -> h.photograph(0, 0));
    }

    private static void clearPhotographs() {
        Check.due("clearPhotographs of none", new SpinHall().clearPhotographs(), 0);
        SpinHall hall = six();
        Check.due("clearPhotographs of six", hall.clearPhotographs(), 6);
        Check.due("rates() behind it", hall.rates(), 3601);
        Check.due("clearPhotographs again", hall.clearPhotographs(), 0);
        Check.due("photograph behind it", hall.photograph(1, 7), 1);
        Check.due("rates() behind that", hall.rates(), 10);
    }

    private static void rates() {
        Check.due("rates() of none", new SpinHall().rates(), 3601);
        Check.due("rates() that stand", told(1, 0).rates(), 11);
        Check.due("rates() of 10", told(1, 10).rates(), 10);
        Check.due("rates() of -10", told(1, -10).rates(), 10);
        Check.due("rates() of 180", told(1, 180).rates(), 10);
        Check.due("rates() over 2 ticks", told(2, 0).rates(), 21);
        Check.due("rates() over 50 ticks", told(50, 10).rates(), 100);
        Check.due("rates() that no thing has", told(2, 1).rates(), 0);
        Check.due("rates() of six", six().rates(), 10);
        Check.due("rates() of two that fit", told(7, 70, 2, 20).rates(), 10);
        Check.due("rates() of two that do not fit", told(7, 70, 2, 22).rates(), 0);
    }

    private static void slowestRate() {
        Check.due("slowestRate() of none", new SpinHall().slowestRate(), 0);
        Check.due("slowestRate() of 10", told(1, 10).slowestRate(), 10);
        Check.due("slowestRate() of -10", told(1, -10).slowestRate(), -10);
        Check.due("slowestRate() of 180", told(1, 180).slowestRate(), 180);
        Check.due("slowestRate() of -179", told(1, -179).slowestRate(), -179);
        Check.due("slowestRate() over 2 ticks", told(2, 180).slowestRate(), 90);
        Check.due("slowestRate() over two gaps", told(7, 0, 35, 0).slowestRate(), 0);
        Check.due("slowestRate() that both gaps leave", told(8, -80, 12, -120).slowestRate(), -10);
        Check.due("slowestRate() over 2 ticks, below 0", told(2, -80).slowestRate(), -40);
        Check.refused(() -> told(2, 1), "slowestRate() of none that suits", NoSuchElementException.class,
            SpinHall::slowestRate);
        Check.refused(() -> told(1, 10, 1, 11), "slowestRate() of two that do not fit",
            NoSuchElementException.class, SpinHall::slowestRate);
    }
}
