import java.lang.reflect.Field;

/** Promises 39 to 42: the checksum, the shares and means, and whether all is sound. */
final class SumTest {
    private static final Class<IndexOutOfBoundsException> INDEX = IndexOutOfBoundsException.class;
    private static final Class<ArithmeticException> ARITHMETIC = ArithmeticException.class;

    private SumTest() {
    }

    static void run() {
        checksums();
        checksumOverflow();
        openShares();
        meanScores();
        sound();
        unsoundRow();
        unsoundActs();
        unsoundRanks();
        unsoundPoints();
        checksumOfAll();
        everyShare();
        meansOfMany();
        soundAgain();
        unsoundSlots();
    }

    private static void checksums() {
        Prioritywave x = HeatTest.withSurfers(3);
        Check.same("39: no heats", x.checksum(), 7);
        x.heat(0, 0, 10, 6);
        long due = 7;
        due = 31 * due + 0;
        due = 31 * due - 1 + 3;
        due = 31 * due + 0;
        due = 31 * due - 1 + 3;
        Check.same("39: nothing counts, nobody in the row", x.checksum(), due);
        x.ride(0, 1, 0, 0, false);
        x.leave(0, 2, 0);
        due = 7;
        due = 31 * due + 500;
        due = 31 * due + 0 + 3;
        due = 31 * due + 0;
        due = 31 * due - 2 + 3;
        Check.same("39: one rode, one left", x.checksum(), due);
        x.heat(0, 0, 10, 3);
        x.close(0);
        due = 31 * due;
        due = 31 * due + 2;
        due = 31 * due;
        due = 31 * due + 2;
        Check.same("39: closed heats too, then the next one", x.checksum(), due);
    }

    private static void checksumOverflow() {
        Prioritywave x = HeatTest.withSurfers(4);
        long due = 7;
        for (int i = 0; i < 40; i++) {
            x.heat(0, 0, 10, 15);
            for (int surfer = 0; surfer < 4; surfer++) {
                due = 31 * due;
                due = 31 * due + 2;
            }
        }
        Check.same("39: of 40 heats, wrapped around", x.checksum(), due);
    }

    private static void openShares() {
        Prioritywave x = HeatTest.withSurfers(2);
        Check.refuses("40: no heats", ARITHMETIC, x, () -> x.openShare());
        x.heat(0, 0, 10, 3);
        Check.sameDouble("40: one of one", x.openShare(), 1.0f);
        x.close(0);
        Check.sameDouble("40: none of one", x.openShare(), 0.0f);
        x.heat(0, 0, 10, 3);
        x.heat(0, 0, 10, 3);
        Check.sameDouble("40: two of three, as float", x.openShare(), 2.0f / 3.0f);
        x.close(1);
        Check.sameDouble("40: one of three, as float", x.openShare(), 1.0f / 3.0f);
    }

    private static void meanScores() {
        Prioritywave x = HeatTest.withSurfers(3);
        Check.refuses("41: no heat", INDEX, x, () -> x.meanScore(0));
        x.heat(0, 0, 60, 7);
        Check.refuses("41: no heat 1", INDEX, x, () -> x.meanScore(1));
        Check.refuses("41: no heat -1", INDEX, x, () -> x.meanScore(-1));
        Check.refuses("41: no scores", ARITHMETIC, x, () -> x.meanScore(0));
        x.miss(0, 0, 0);
        Check.refuses("41: acts, but no scores", ARITHMETIC, x, () -> x.meanScore(0));
        RankTest.ride(x, 0, 5, 0, false);
        Check.sameDouble("41: a score of 0", x.meanScore(0), 0.0);
        RankTest.ride(x, 0, 10, 501, false);
        Check.sameDouble("41: of two", x.meanScore(0), 250.5);
        RankTest.ride(x, 2, 15, 500, false);
        Check.sameDouble("41: of all surfers", x.meanScore(0), 1001.0 / 3.0);
        RankTest.ride(x, 0, 20, 7, false);
        Check.sameDouble("41: also those that do not count", x.meanScore(0), 1008.0 / 4.0);
        x.close(0);
        Check.sameDouble("41: of a closed heat", x.meanScore(0), 252.0);
    }

    private static void sound() {
        Prioritywave x = EventTest.tour(13);
        Check.yes("42: at first", x.isSound());
        x.event(0);
        EventTest.whole(x, 0);
        Check.yes("42: with an event that is over", x.isSound());
        x.event(0);
        x.round(1, 0);
        x.ride(15, x.surferAt(15, 1), 0, 0, false);
        x.ride(15, x.surferAt(15, 0), 0, 0, true);
        x.suspend(16, x.surferAt(16, 1), 0);
        x.leave(16, x.surferAt(16, 2), 0);
        Check.yes("42: with open heats and acts", x.isSound());
        x.restart(16, 10);
        Check.yes("42: with a heat that was begun anew", x.isSound());
    }

    /** What is not sound cannot come by calls of the face, so it is put there past them. */
    private static void unsoundRow() {
        Prioritywave x = HeatTest.withSurfers(3);
        x.heat(0, 0, 60, 7);
        x.heat(0, 0, 60, 7);
        x.suspend(1, 2, 0);
        Object row = of(of(at(of(x, "heats"), 1), "course"), "row");
        int[] places = (int[]) of(row, "places");
        places[2] = -1;
        Check.no("42: a row that its acts do not make", x.isSound());
        places[2] = 0;
        Check.yes("42: the row that they make", x.isSound());
    }

    private static void unsoundActs() {
        Prioritywave x = HeatTest.withSurfers(2);
        x.heat(0, 0, 60, 3);
        x.ride(0, 0, 0, 0, false);
        x.suspend(0, 1, 0);
        Object heat = at(of(x, "heats"), 0);
        Object first = of(heat, "firstAct");
        set(heat, "firstAct", null);
        Check.no("42: a row without its acts", x.isSound());
        set(heat, "firstAct", first);
        Check.yes("42: with its acts", x.isSound());
    }

    private static void unsoundRanks() {
        Prioritywave x = HeatTest.withSurfers(4);
        x.heat(0, 0, 60, 15);
        int[] ranks = (int[]) of(at(of(x, "heats"), 0), "ranks");
        ranks[3] = 1;
        Check.no("42: the first and the last one of one rank", x.isSound());
        ranks[3] = 4;
        ranks[1] = 3;
        Check.no("42: two in the middle of one rank", x.isSound());
        ranks[1] = 2;
        Check.yes("42: each of one of its own", x.isSound());
    }

    private static void unsoundPoints() {
        Prioritywave x = EventTest.tour(12);
        x.event(0);
        x.event(0);
        EventTest.whole(x, 0);
        int[] points = (int[]) of(at(of(of(x, "tour"), "events"), 0), "points");
        points[1] = 10000;
        Check.no("42: two winners", x.isSound());
        points[1] = 7800;
        Check.yes("42: one winner", x.isSound());
        points[0] = 0;
        Check.no("42: no winner", x.isSound());
    }

    private static Object at(Object array, int index) {
        return ((Object[]) array)[index];
    }

    private static Field field(Object object, String name) {
        try {
            Field field = object.getClass().getDeclaredField(name);
            field.setAccessible(true);
            return field;
        } catch (NoSuchFieldException wrong) {
            throw new IllegalStateException(wrong);
        }
    }

    private static Object of(Object object, String name) {
        try {
            return field(object, name).get(object);
        } catch (IllegalAccessException wrong) {
            throw new IllegalStateException(wrong);
        }
    }

    private static void set(Object object, String name, Object value) {
        try {
            field(object, name).set(object, value);
        } catch (IllegalAccessException wrong) {
            throw new IllegalStateException(wrong);
        }
    }

    /** "31 times itself plus what this one counts, then 31 times itself plus the place in the row .. plus 3". */
    private static void checksumOfAll() {
        Prioritywave x = RangeTest.everyMinute(4);
        java.math.BigInteger sum = java.math.BigInteger.valueOf(7);
        for (int heat = 0; heat < 40; heat++) {
            x.heat(0, 0, 60, heat % 2 == 0 ? 15 : 13);
            x.ride(heat, 2, heat % 5, 0, false);
            if (heat % 3 == 0) {
                x.leave(heat, 3, heat % 5);
            }
            for (int index = 0; index < (heat % 2 == 0 ? 4 : 3); index++) {
                int surfer = x.surferAt(heat, index);
                int place = surfer == 3 && heat % 3 == 0 ? -2 : surfer == 2 ? 0 : -1;
                if (heat % 6 == 3) {
                    // Of three one has left and one rode, so that the last one is put ahead.
                    place = surfer == 3 ? -2 : surfer == 2 ? 1 : 0;
                }
                sum = plus(plus(sum, surfer == 2 ? 500 : 0), place + 3);
            }
            Check.same("39: of " + (heat + 1) + " heats", x.checksum(), sum.longValue());
        }
        Check.yes("39: far above the greatest long", sum.bitLength() > 1000);
    }

    private static java.math.BigInteger plus(java.math.BigInteger sum, int more) {
        return sum.multiply(java.math.BigInteger.valueOf(31)).add(java.math.BigInteger.valueOf(more));
    }

    /** "their number divided by that of all, both converted to float": of one to seven heats none to all closed. */
    private static void everyShare() {
        for (int all = 1; all <= 7; all++) {
            Prioritywave x = HeatTest.withSurfers(2);
            for (int i = 0; i < all; i++) {
                x.heat(0, 0, 10, 3);
            }
            for (int closed = 0; closed <= all; closed++) {
                Check.sameDouble("40: open of " + all, x.openShare(), (float) (all - closed) / (float) all);
                if (closed < all) {
                    x.close(all - 1 - closed);
                }
            }
        }
    }

    private static void meansOfMany() {
        Prioritywave x = RangeTest.everyMinute(2);
        x.heat(0, 0, 60, 3);
        x.wipe();
        for (int i = 0; i < 7; i++) {
            x.mark(i < 3 ? 0 : 1000);
        }
        double sum = 0;
        for (int minute = 0; minute < 60; minute++) {
            int surfer = minute % 2;
            sum += x.ride(0, surfer, minute, minute % 3, false);
            Check.sameDouble("41: of " + (minute + 1), x.meanScore(0), sum / (minute + 1));
        }
    }

    /** Acts are told anew at each question, those of each heat by themselves, and those of a heat begun anew. */
    private static void soundAgain() {
        Prioritywave x = RangeTest.everyMinute(4);
        for (int heat = 0; heat < 3; heat++) {
            x.heat(0, 0, 60, 15);
            x.suspend(heat, 3, 0);
            x.ride(heat, 0, 0, 0, false);
            x.ride(heat, 3, 0, 0, true);
            Check.same("23: one by p", x.hindered(heat, 3, 'p'), 1);
            for (int times = 0; times < 3; times++) {
                Check.yes("42: sound again", x.isSound());
            }
        }
        x.heat(0, 0, 60, 7);
        x.suspend(3, 0, 0);
        x.leave(3, 1, 0);
        x.restart(3, 0);
        Check.yes("42: begun anew", x.isSound());
        x.suspend(3, 2, 0);
        Check.yes("42: begun anew, with an act", x.isSound());
        x.suspend(3, 1, 0);
        x.ride(3, 0, 1, 0, false);
        x.ride(3, 1, 1, 0, true);
        Check.yes("42: begun anew, with rides", x.isSound());
        for (int heat = 0; heat < 4; heat++) {
            x.close(heat);
            Check.yes("42: closed", x.isSound());
        }
    }

    /** A row that is not what the acts make of it, for each surfer of each heat. */
    private static void unsoundSlots() {
        Prioritywave x = RangeTest.everyMinute(4);
        for (int heat = 0; heat < 40; heat++) {
            x.heat(0, 0, 60, 15);
            x.suspend(heat, heat % 4, 0);
        }
        for (int heat = 0; heat < 40; heat += 13) {
            int[] places = (int[]) of(of(of(at(of(x, "heats"), heat), "course"), "row"), "places");
            for (int slot = 0; slot < 4; slot++) {
                int before = places[slot];
                for (int wrong = -2; wrong <= 3; wrong++) {
                    places[slot] = wrong;
                    Check.same("42: the place " + wrong + " for " + before, x.isSound() ? 1 : 0,
                            wrong == before ? 1 : 0);
                }
                places[slot] = before;
            }
        }
    }
}
