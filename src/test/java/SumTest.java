import java.lang.reflect.Field;

/** Promises 39 to 42: the checksum, the shares and means, and whether all is sound. */
final class SumTest {
    private static final Class<IndexOutOfBoundsException> INDEX = IndexOutOfBoundsException.class;
    private static final Class<ArithmeticException> ARITHMETIC = ArithmeticException.class;

    private SumTest() {
    }

    static void run() {
        checksums();
        checksumOverflow();
        openShares();
        meanScores();
        sound();
        unsoundRow();
        unsoundActs();
        unsoundRanks();
        unsoundPoints();
    }

    private static void checksums() {
        Prioritywave x = HeatTest.withSurfers(3);
        Check.same("39: no heats", x.checksum(), 7);
        x.heat(0, 0, 10, 6);
        long due = 7;
        due = 31 * due + 0;
        due = 31 * due - 1 + 3;
        due = 31 * due + 0;
        due = 31 * due - 1 + 3;
        Check.same("39: nothing counts, nobody in the row", x.checksum(), due);
        x.ride(0, 1, 0, 0, false);
        x.leave(0, 2, 0);
        due = 7;
        due = 31 * due + 500;
        due = 31 * due + 0 + 3;
        due = 31 * due + 0;
        due = 31 * due - 2 + 3;
        Check.same("39: one rode, one left", x.checksum(), due);
        x.heat(0, 0, 10, 3);
        x.close(0);
        due = 31 * due;
        due = 31 * due + 2;
        due = 31 * due;
        due = 31 * due + 2;
        Check.same("39: closed heats too, then the next one", x.checksum(), due);
    }

    private static void checksumOverflow() {
        Prioritywave x = HeatTest.withSurfers(4);
        long due = 7;
        for (int i = 0; i < 40; i++) {
            x.heat(0, 0, 10, 15);
            for (int surfer = 0; surfer < 4; surfer++) {
                due = 31 * due;
                due = 31 * due + 2;
            }
        }
        Check.same("39: of 40 heats, wrapped around", x.checksum(), due);
    }

    private static void openShares() {
        Prioritywave x = HeatTest.withSurfers(2);
        Check.refuses("40: no heats", ARITHMETIC, () -> x.openShare());
        x.heat(0, 0, 10, 3);
        Check.sameDouble("40: one of one", x.openShare(), 1.0f);
        x.close(0);
        Check.sameDouble("40: none of one", x.openShare(), 0.0f);
        x.heat(0, 0, 10, 3);
        x.heat(0, 0, 10, 3);
        Check.sameDouble("40: two of three, as float", x.openShare(), 2.0f / 3.0f);
        x.close(1);
        Check.sameDouble("40: one of three, as float", x.openShare(), 1.0f / 3.0f);
    }

    private static void meanScores() {
        Prioritywave x = HeatTest.withSurfers(3);
        Check.refuses("41: no heat", INDEX, () -> x.meanScore(0));
        x.heat(0, 0, 60, 7);
        Check.refuses("41: no heat 1", INDEX, () -> x.meanScore(1));
        Check.refuses("41: no heat -1", INDEX, () -> x.meanScore(-1));
        Check.refuses("41: no scores", ARITHMETIC, () -> x.meanScore(0));
        x.miss(0, 0, 0);
        Check.refuses("41: acts, but no scores", ARITHMETIC, () -> x.meanScore(0));
        RankTest.ride(x, 0, 5, 0, false);
        Check.sameDouble("41: a score of 0", x.meanScore(0), 0.0);
        RankTest.ride(x, 0, 10, 501, false);
        Check.sameDouble("41: of two", x.meanScore(0), 250.5);
        RankTest.ride(x, 2, 15, 500, false);
        Check.sameDouble("41: of all surfers", x.meanScore(0), 1001.0 / 3.0);
        RankTest.ride(x, 0, 20, 7, false);
        Check.sameDouble("41: also those that do not count", x.meanScore(0), 1008.0 / 4.0);
        x.close(0);
        Check.sameDouble("41: of a closed heat", x.meanScore(0), 252.0);
    }

    private static void sound() {
        Prioritywave x = EventTest.tour(13);
        Check.yes("42: at first", x.isSound());
        x.event(0);
        EventTest.whole(x, 0);
        Check.yes("42: with an event that is over", x.isSound());
        x.event(0);
        x.round(1, 0);
        x.ride(15, x.surferAt(15, 1), 0, 0, false);
        x.ride(15, x.surferAt(15, 0), 0, 0, true);
        x.suspend(16, x.surferAt(16, 1), 0);
        x.leave(16, x.surferAt(16, 2), 0);
        Check.yes("42: with open heats and acts", x.isSound());
        x.restart(16, 10);
        Check.yes("42: with a heat that was begun anew", x.isSound());
    }

    /** What is not sound cannot come by calls of the face, so it is put there past them. */
    private static void unsoundRow() {
        Prioritywave x = HeatTest.withSurfers(3);
        x.heat(0, 0, 60, 7);
        x.heat(0, 0, 60, 7);
        x.suspend(1, 2, 0);
        Object row = of(of(at(of(x, "heats"), 1), "course"), "row");
        int[] places = (int[]) of(row, "places");
        places[2] = -1;
        Check.no("42: a row that its acts do not make", x.isSound());
        places[2] = 0;
        Check.yes("42: the row that they make", x.isSound());
    }

    private static void unsoundActs() {
        Prioritywave x = HeatTest.withSurfers(2);
        x.heat(0, 0, 60, 3);
        x.ride(0, 0, 0, 0, false);
        x.suspend(0, 1, 0);
        Object heat = at(of(x, "heats"), 0);
        Object first = of(heat, "firstAct");
        set(heat, "firstAct", null);
        Check.no("42: a row without its acts", x.isSound());
        set(heat, "firstAct", first);
        Check.yes("42: with its acts", x.isSound());
    }

    private static void unsoundRanks() {
        Prioritywave x = HeatTest.withSurfers(4);
        x.heat(0, 0, 60, 15);
        int[] ranks = (int[]) of(at(of(x, "heats"), 0), "ranks");
        ranks[3] = 1;
        Check.no("42: the first and the last one of one rank", x.isSound());
        ranks[3] = 4;
        ranks[1] = 3;
        Check.no("42: two in the middle of one rank", x.isSound());
        ranks[1] = 2;
        Check.yes("42: each of one of its own", x.isSound());
    }

    private static void unsoundPoints() {
        Prioritywave x = EventTest.tour(12);
        x.event(0);
        x.event(0);
        EventTest.whole(x, 0);
        int[] points = (int[]) of(at(of(of(x, "tour"), "events"), 0), "points");
        points[1] = 10000;
        Check.no("42: two winners", x.isSound());
        points[1] = 7800;
        Check.yes("42: one winner", x.isSound());
        points[0] = 0;
        Check.no("42: no winner", x.isSound());
    }

    private static Object at(Object array, int index) {
        return ((Object[]) array)[index];
    }

    private static Field field(Object object, String name) {
        try {
            Field field = object.getClass().getDeclaredField(name);
            field.setAccessible(true);
            return field;
        } catch (NoSuchFieldException wrong) {
            throw new IllegalStateException(wrong);
        }
    }

    private static Object of(Object object, String name) {
        try {
            return field(object, name).get(object);
        } catch (IllegalAccessException wrong) {
            throw new IllegalStateException(wrong);
        }
    }

    private static void set(Object object, String name, Object value) {
        try {
            field(object, name).set(object, value);
        } catch (IllegalAccessException wrong) {
            throw new IllegalStateException(wrong);
        }
    }
}
