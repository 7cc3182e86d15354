/** Promises 1 to 6: a new object, swells, banks, tides, waves and the best minutes. */
final class SeaTest {
    private static final Class<IllegalArgumentException> ARGUMENT = IllegalArgumentException.class;
    private static final Class<IllegalStateException> STATE = IllegalStateException.class;
    private static final Class<IndexOutOfBoundsException> INDEX = IndexOutOfBoundsException.class;

    private SeaTest() {
    }

    static void run() {
        newObject();
        swellBounds();
        swellLimit();
        bankBounds();
        bankLimit();
        tides();
        waveMinutes();
        waveTides();
        waveHeights();
        waveRefusals();
        bestMinutes();
        bestBounds();
    }

    private static void newObject() {
        Prioritywave x = new Prioritywave();
        Check.refuses("1: no bank", INDEX, () -> x.wave(0, 0));
        Check.refuses("1: no surfer", INDEX, () -> x.points(0));
        Check.refuses("1: no heat", INDEX, () -> x.isOpen(0));
        Check.refuses("1: no event", INDEX, () -> x.rounds(0));
        Check.refuses("1: no seed", java.util.NoSuchElementException.class, () -> x.seed(0));
        Check.same("1: no mark", x.wipe(), 0);
        Check.same("1: checksum", x.checksum(), 7);
        Check.same("1: nothing dropped", x.drop(0), 0);
        Check.yes("1: sound", x.isSound());
    }

    private static void swellBounds() {
        Prioritywave x = new Prioritywave();
        Check.refuses("2: height 49", ARGUMENT, () -> x.swell(49, 5, 0, 0, 0));
        Check.refuses("2: height 601", ARGUMENT, () -> x.swell(601, 5, 0, 0, 0));
        Check.refuses("2: period 4", ARGUMENT, () -> x.swell(50, 4, 0, 0, 0));
        Check.refuses("2: period 21", ARGUMENT, () -> x.swell(50, 21, 0, 0, 0));
        Check.refuses("2: direction -1", ARGUMENT, () -> x.swell(50, 5, -1, 0, 0));
        Check.refuses("2: direction 360", ARGUMENT, () -> x.swell(50, 5, 360, 0, 0));
        Check.refuses("2: first -1", ARGUMENT, () -> x.swell(50, 5, 0, -1, 0));
        Check.refuses("2: first 100000", ARGUMENT, () -> x.swell(50, 5, 0, 100000, 100000));
        Check.refuses("2: last 100000", ARGUMENT, () -> x.swell(50, 5, 0, 0, 100000));
        Check.refuses("2: last ahead of first", ARGUMENT, () -> x.swell(50, 5, 0, 8, 7));
        Check.same("2: least of all, none added before", x.swell(50, 5, 0, 0, 0), 0);
        Check.same("2: greatest of all", x.swell(600, 20, 359, 99999, 99999), 1);
    }

    private static void swellLimit() {
        Prioritywave x = new Prioritywave();
        for (int i = 0; i < 6; i++) {
            Check.same("2: number", x.swell(100, 5, 0, 0, 10), i);
        }
        Check.refuses("2: a seventh", STATE, () -> x.swell(100, 5, 0, 0, 10));
        Check.refuses("2: a wrong seventh", ARGUMENT, () -> x.swell(100, 5, 0, 10, 0));
    }

    private static void bankBounds() {
        Prioritywave x = new Prioritywave();
        Check.refuses("3: direction -1", ARGUMENT, () -> x.bank(-1, 10, 0, 0));
        Check.refuses("3: direction 360", ARGUMENT, () -> x.bank(360, 10, 0, 0));
        Check.refuses("3: share 9", ARGUMENT, () -> x.bank(0, 9, 0, 0));
        Check.refuses("3: share 201", ARGUMENT, () -> x.bank(0, 201, 0, 0));
        Check.refuses("3: low -1", ARGUMENT, () -> x.bank(0, 10, -1, 0));
        Check.refuses("3: high 401", ARGUMENT, () -> x.bank(0, 10, 0, 401));
        Check.refuses("3: low 401", ARGUMENT, () -> x.bank(0, 10, 401, 401));
        Check.refuses("3: low above high", ARGUMENT, () -> x.bank(0, 10, 5, 4));
        Check.same("3: least of all, none added before", x.bank(0, 10, 0, 0), 0);
        Check.same("3: greatest of all", x.bank(359, 200, 400, 400), 1);
    }

    private static void bankLimit() {
        Prioritywave x = new Prioritywave();
        for (int i = 0; i < 4; i++) {
            Check.same("3: number", x.bank(0, 100, 0, 400), i);
        }
        Check.refuses("3: a fifth", STATE, () -> x.bank(0, 100, 0, 400));
        Check.refuses("3: a wrong fifth", ARGUMENT, () -> x.bank(0, 100, 400, 0));
        Check.refuses("3: no bank 4", INDEX, () -> x.wave(4, 0));
    }

    private static void tides() {
        Prioritywave x = new Prioritywave();
        Check.refuses("4: minute -1", ARGUMENT, () -> x.tide(-1));
        Check.refuses("4: minute 100000", ARGUMENT, () -> x.tide(100000));
        Check.same("4: at 0", x.tide(0), 400);
        Check.same("4: at 1, cut", x.tide(1), 398);
        Check.same("4: at 371", x.tide(371), 1);
        Check.same("4: at 372", x.tide(372), 0);
        Check.same("4: at 373", x.tide(373), 1);
        Check.same("4: at 743", x.tide(743), 398);
        Check.same("4: at 744", x.tide(744), 400);
        Check.same("4: at 99999, of which the rest is 303", x.tide(99999), 74);
    }

    private static void waveMinutes() {
        Prioritywave x = new Prioritywave();
        x.swell(100, 5, 0, 5, 20);
        x.bank(0, 100, 0, 400);
        Check.same("5: ahead of the first minute", x.wave(0, 0), 0);
        Check.same("5: the first minute", x.wave(0, 5), 100);
        Check.same("5: between two waves", x.wave(0, 6), 0);
        Check.same("5: the last minute", x.wave(0, 20), 100);
        Check.same("5: behind the last minute", x.wave(0, 25), 0);
        x.swell(90, 5, 0, 0, 40);
        Check.same("5: swell 1 where 7m + 3 is a multiple of 5", x.wave(0, 1), 90);
        Check.same("5: not where 7m is one", x.wave(0, 25), 0);
        x.swell(80, 20, 0, 0, 99999);
        Check.same("5: swell 2 where 7m + 6 is a multiple of 20", x.wave(0, 22), 80);
        Check.same("5: swell 2 not a minute behind", x.wave(0, 23), 0);
    }

    private static void waveTides() {
        Prioritywave x = new Prioritywave();
        x.swell(100, 6, 0, 0, 99999);
        x.bank(0, 100, 100, 398);
        x.swell(60, 5, 0, 0, 99999);
        Check.same("5: above the greatest tide", x.wave(0, 0), 0);
        Check.same("5: at the greatest tide", x.wave(0, 1), 60);
        x.bank(0, 100, x.tide(18), x.tide(6));
        Check.same("5: at the greatest tide of this bank", x.wave(1, 6), 100);
        Check.same("5: a minute ahead of it", x.wave(1, 0), 0);
        Check.same("5: at the least tide", x.wave(1, 18), 100);
        Check.same("5: below the least tide", x.wave(1, 24), 0);
    }

    private static void waveHeights() {
        Prioritywave x = new Prioritywave();
        x.swell(333, 5, 10, 0, 0);
        x.bank(10, 77, 0, 400);
        Check.same("5: the share, cut", x.wave(0, 0), 256);
        x.bank(350, 77, 0, 400);
        Check.same("5: an angle of 20 over 0", x.wave(1, 0), 230);
        x.bank(33, 77, 0, 400);
        Check.same("5: half of 23, cut", x.wave(2, 0), 227);
        x.bank(190, 77, 0, 400);
        Check.same("5: an angle of 180 leaves a tenth, below 30", x.wave(3, 0), 0);
        x.swell(500, 5, 190, 6, 6);
        Check.same("5: an angle of 0", x.wave(3, 6), 385);

        Prioritywave y = new Prioritywave();
        y.swell(60, 5, 0, 0, 0);
        y.bank(0, 50, 0, 400);
        y.bank(0, 49, 0, 400);
        Check.same("5: 30 is a wave", y.wave(0, 0), 30);
        Check.same("5: 29 is none", y.wave(1, 0), 0);
        y.swell(600, 5, 359, 1, 1);
        y.bank(0, 200, 0, 400);
        Check.same("5: the greatest wave, half of 1 is cut", y.wave(2, 1), 1200);

        Prioritywave z = new Prioritywave();
        z.swell(100, 5, 0, 0, 99);
        z.swell(300, 6, 0, 0, 99);
        z.swell(200, 7, 0, 0, 99);
        z.swell(250, 8, 0, 40, 99);
        z.bank(0, 100, 0, 400);
        Check.same("5: swell 0 alone", z.wave(0, 5), 100);
        Check.same("5: swell 1 alone", z.wave(0, 3), 300);
        Check.same("5: the higher of both", z.wave(0, 15), 300);
        Check.same("5: swell 2 never, as 7m + 6 is no multiple of 7", z.wave(0, 7), 0);
        Check.same("5: swell 3 where 7m + 9 is a multiple of 8", z.wave(0, 41), 250);
    }

    private static void waveRefusals() {
        Prioritywave x = new Prioritywave();
        Check.refuses("5: no bank goes first", INDEX, () -> x.wave(0, -1));
        x.bank(0, 100, 0, 400);
        Check.refuses("5: bank -1", INDEX, () -> x.wave(-1, 0));
        Check.refuses("5: bank 1", INDEX, () -> x.wave(1, 0));
        Check.refuses("5: minute -1", ARGUMENT, () -> x.wave(0, -1));
        Check.refuses("5: minute 100000", ARGUMENT, () -> x.wave(0, 100000));
        Check.same("5: without swells", x.wave(0, 0), 0);
        Check.same("5: the last minute", x.wave(0, 99999), 0);
    }

    private static void bestMinutes() {
        Prioritywave x = new Prioritywave();
        x.swell(100, 5, 0, 0, 99999);
        x.bank(0, 100, 0, 400);
        Check.same("6: of several the earliest", x.best(0, 0, 20, 5), 0);
        Check.same("6: one minute", x.best(0, 1, 20, 1), 5);
        Check.same("6: six minutes with two waves", x.best(0, 1, 20, 6), 5);
        Check.same("6: seven minutes with two waves", x.best(0, 1, 20, 7), 4);
        Check.same("6: the latest first minute counts", x.best(0, 1, 5, 1), 5);
        Check.same("6: only one", x.best(0, 3, 3, 1), 3);
        x.swell(100, 5, 0, 50, 60);
        Check.same("6: where two swells are", x.best(0, 0, 100, 10), 47);
        x.swell(600, 5, 0, 90, 95);
        Check.same("6: where one is high", x.best(0, 0, 100, 60), 33);
    }

    private static void bestBounds() {
        Prioritywave x = new Prioritywave();
        Check.refuses("6: no bank goes first", INDEX, () -> x.best(0, 5, 4, 0));
        x.swell(100, 5, 0, 0, 99999);
        x.bank(0, 100, 0, 400);
        Check.refuses("6: bank 1", INDEX, () -> x.best(1, 0, 0, 1));
        Check.refuses("6: from -1", ARGUMENT, () -> x.best(0, -1, 0, 1));
        Check.refuses("6: to ahead of from", ARGUMENT, () -> x.best(0, 5, 4, 1));
        Check.refuses("6: 2001 behind", ARGUMENT, () -> x.best(0, 0, 2001, 1));
        Check.same("6: 2000 behind", x.best(0, 1, 2001, 60), 1);
        Check.refuses("6: no minutes", ARGUMENT, () -> x.best(0, 0, 0, 0));
        Check.refuses("6: 61 minutes", ARGUMENT, () -> x.best(0, 0, 0, 61));
        Check.refuses("6: a minute above 99999", ARGUMENT, () -> x.best(0, 99950, 99990, 11));
        Check.same("6: up to 99999", x.best(0, 99989, 99990, 10), 99989);
        Check.same("6: the last minute", x.best(0, 99999, 99999, 1), 99999);
        Check.refuses("6: from 100000", ARGUMENT, () -> x.best(0, 100000, 100000, 1));
        Check.refuses("6: far too late", ARGUMENT, () -> x.best(0, 0, Integer.MAX_VALUE, 60));
        Check.refuses("6: far too early", ARGUMENT, () -> x.best(0, Integer.MIN_VALUE, 0, 1));
    }
}
