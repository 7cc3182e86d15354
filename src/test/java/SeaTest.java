/** Promises 1 to 6: a new object, swells, banks, tides, waves and the best minutes. */
final class SeaTest {
    private static final Class<IllegalArgumentException> ARGUMENT = IllegalArgumentException.class;
    private static final Class<IllegalStateException> STATE = IllegalStateException.class;
    private static final Class<IndexOutOfBoundsException> INDEX = IndexOutOfBoundsException.class;

    private SeaTest() {
    }

    static void run() {
        newObject();
        swellBounds();
        swellLimit();
        bankBounds();
        bankLimit();
        tides();
        waveMinutes();
        waveTides();
        waveHeights();
        waveRefusals();
        bestMinutes();
        bestBounds();
        everyTide();
        everyNumberAndPeriod();
        everyAngle();
        everyShare();
        leastWave();
        highestWave();
        edgesOfTide();
        everySearch();
        searchWithoutWaves();
    }

    private static void newObject() {
        Prioritywave x = new Prioritywave();
        Check.refuses("1: no bank", INDEX, x, () -> x.wave(0, 0));
        Check.refuses("1: no surfer", INDEX, x, () -> x.points(0));
        Check.refuses("1: no heat", INDEX, x, () -> x.isOpen(0));
        Check.refuses("1: no event", INDEX, x, () -> x.rounds(0));
        Check.refuses("1: no seed", java.util.NoSuchElementException.class, x, () -> x.seed(0));
        Check.same("1: no mark", x.wipe(), 0);
        Check.same("1: checksum", x.checksum(), 7);
        Check.same("1: nothing dropped", x.drop(0), 0);
        Check.yes("1: sound", x.isSound());
    }

    private static void swellBounds() {
        Prioritywave x = new Prioritywave();
        Check.refuses("2: height 49", ARGUMENT, x, () -> x.swell(49, 5, 0, 0, 0));
        Check.refuses("2: height 601", ARGUMENT, x, () -> x.swell(601, 5, 0, 0, 0));
        Check.refuses("2: period 4", ARGUMENT, x, () -> x.swell(50, 4, 0, 0, 0));
        Check.refuses("2: period 21", ARGUMENT, x, () -> x.swell(50, 21, 0, 0, 0));
        Check.refuses("2: direction -1", ARGUMENT, x, () -> x.swell(50, 5, -1, 0, 0));
        Check.refuses("2: direction 360", ARGUMENT, x, () -> x.swell(50, 5, 360, 0, 0));
        Check.refuses("2: first -1", ARGUMENT, x, () -> x.swell(50, 5, 0, -1, 0));
        Check.refuses("2: first 100000", ARGUMENT, x, () -> x.swell(50, 5, 0, 100000, 100000));
        Check.refuses("2: last 100000", ARGUMENT, x, () -> x.swell(50, 5, 0, 0, 100000));
        Check.refuses("2: last ahead of first", ARGUMENT, x, () -> x.swell(50, 5, 0, 8, 7));
        Check.same("2: least of all, none added before", x.swell(50, 5, 0, 0, 0), 0);
        Check.same("2: greatest of all", x.swell(600, 20, 359, 99999, 99999), 1);
    }

    private static void swellLimit() {
        Prioritywave x = new Prioritywave();
        for (int i = 0; i < 6; i++) {
            Check.same("2: number", x.swell(100, 5, 0, 0, 10), i);
        }
        Check.refuses("2: a seventh", STATE, x, () -> x.swell(100, 5, 0, 0, 10));
        Check.refuses("2: a wrong seventh", ARGUMENT, x, () -> x.swell(100, 5, 0, 10, 0));
    }

    private static void bankBounds() {
        Prioritywave x = new Prioritywave();
        Check.refuses("3: direction -1", ARGUMENT, x, () -> x.bank(-1, 10, 0, 0));
        Check.refuses("3: direction 360", ARGUMENT, x, () -> x.bank(360, 10, 0, 0));
        Check.refuses("3: share 9", ARGUMENT, x, () -> x.bank(0, 9, 0, 0));
        Check.refuses("3: share 201", ARGUMENT, x, () -> x.bank(0, 201, 0, 0));
        Check.refuses("3: low -1", ARGUMENT, x, () -> x.bank(0, 10, -1, 0));
        Check.refuses("3: high 401", ARGUMENT, x, () -> x.bank(0, 10, 0, 401));
        Check.refuses("3: low 401", ARGUMENT, x, () -> x.bank(0, 10, 401, 401));
        Check.refuses("3: low above high", ARGUMENT, x, () -> x.bank(0, 10, 5, 4));
        Check.same("3: least of all, none added before", x.bank(0, 10, 0, 0), 0);
        Check.same("3: greatest of all", x.bank(359, 200, 400, 400), 1);
    }

    private static void bankLimit() {
        Prioritywave x = new Prioritywave();
        for (int i = 0; i < 4; i++) {
            Check.same("3: number", x.bank(0, 100, 0, 400), i);
        }
        Check.refuses("3: a fifth", STATE, x, () -> x.bank(0, 100, 0, 400));
        Check.refuses("3: a wrong fifth", ARGUMENT, x, () -> x.bank(0, 100, 400, 0));
        Check.refuses("3: no bank 4", INDEX, x, () -> x.wave(4, 0));
    }

    private static void tides() {
        Prioritywave x = new Prioritywave();
        Check.refuses("4: minute -1", ARGUMENT, x, () -> x.tide(-1));
        Check.refuses("4: minute 100000", ARGUMENT, x, () -> x.tide(100000));
        Check.same("4: at 0", x.tide(0), 400);
        Check.same("4: at 1, cut", x.tide(1), 398);
        Check.same("4: at 371", x.tide(371), 1);
        Check.same("4: at 372", x.tide(372), 0);
        Check.same("4: at 373", x.tide(373), 1);
        Check.same("4: at 743", x.tide(743), 398);
        Check.same("4: at 744", x.tide(744), 400);
        Check.same("4: at 99999, of which the rest is 303", x.tide(99999), 74);
    }

    private static void waveMinutes() {
        Prioritywave x = new Prioritywave();
        x.swell(100, 5, 0, 5, 20);
        x.bank(0, 100, 0, 400);
        Check.same("5: ahead of the first minute", x.wave(0, 0), 0);
        Check.same("5: the first minute", x.wave(0, 5), 100);
        Check.same("5: between two waves", x.wave(0, 6), 0);
        Check.same("5: the last minute", x.wave(0, 20), 100);
        Check.same("5: behind the last minute", x.wave(0, 25), 0);
        x.swell(90, 5, 0, 0, 40);
        Check.same("5: swell 1 where 7m + 3 is a multiple of 5", x.wave(0, 1), 90);
        Check.same("5: not where 7m is one", x.wave(0, 25), 0);
        x.swell(80, 20, 0, 0, 99999);
        Check.same("5: swell 2 where 7m + 6 is a multiple of 20", x.wave(0, 22), 80);
        Check.same("5: swell 2 not a minute behind", x.wave(0, 23), 0);
    }

    private static void waveTides() {
        Prioritywave x = new Prioritywave();
        x.swell(100, 6, 0, 0, 99999);
        x.bank(0, 100, 100, 398);
        x.swell(60, 5, 0, 0, 99999);
        Check.same("5: above the greatest tide", x.wave(0, 0), 0);
        Check.same("5: at the greatest tide", x.wave(0, 1), 60);
        x.bank(0, 100, x.tide(18), x.tide(6));
        Check.same("5: at the greatest tide of this bank", x.wave(1, 6), 100);
        Check.same("5: a minute ahead of it", x.wave(1, 0), 0);
        Check.same("5: at the least tide", x.wave(1, 18), 100);
        Check.same("5: below the least tide", x.wave(1, 24), 0);
    }

    private static void waveHeights() {
        Prioritywave x = new Prioritywave();
        x.swell(333, 5, 10, 0, 0);
        x.bank(10, 77, 0, 400);
        Check.same("5: the share, cut", x.wave(0, 0), 256);
        x.bank(350, 77, 0, 400);
        Check.same("5: an angle of 20 over 0", x.wave(1, 0), 230);
        x.bank(33, 77, 0, 400);
        Check.same("5: half of 23, cut", x.wave(2, 0), 227);
        x.bank(190, 77, 0, 400);
        Check.same("5: an angle of 180 leaves a tenth, below 30", x.wave(3, 0), 0);
        x.swell(500, 5, 190, 6, 6);
        Check.same("5: an angle of 0", x.wave(3, 6), 385);

        Prioritywave y = new Prioritywave();
        y.swell(60, 5, 0, 0, 0);
        y.bank(0, 50, 0, 400);
        y.bank(0, 49, 0, 400);
        Check.same("5: 30 is a wave", y.wave(0, 0), 30);
        Check.same("5: 29 is none", y.wave(1, 0), 0);
        y.swell(600, 5, 359, 1, 1);
        y.bank(0, 200, 0, 400);
        Check.same("5: the greatest wave, half of 1 is cut", y.wave(2, 1), 1200);

        Prioritywave z = new Prioritywave();
        z.swell(100, 5, 0, 0, 99);
        z.swell(300, 6, 0, 0, 99);
        z.swell(200, 7, 0, 0, 99);
        z.swell(250, 8, 0, 40, 99);
        z.bank(0, 100, 0, 400);
        Check.same("5: swell 0 alone", z.wave(0, 5), 100);
        Check.same("5: swell 1 alone", z.wave(0, 3), 300);
        Check.same("5: the higher of both", z.wave(0, 15), 300);
        Check.same("5: swell 2 never, as 7m + 6 is no multiple of 7", z.wave(0, 7), 0);
        Check.same("5: swell 3 where 7m + 9 is a multiple of 8", z.wave(0, 41), 250);
    }

    private static void waveRefusals() {
        Prioritywave x = new Prioritywave();
        Check.refuses("5: no bank goes first", INDEX, x, () -> x.wave(0, -1));
        x.bank(0, 100, 0, 400);
        Check.refuses("5: bank -1", INDEX, x, () -> x.wave(-1, 0));
        Check.refuses("5: bank 1", INDEX, x, () -> x.wave(1, 0));
        Check.refuses("5: minute -1", ARGUMENT, x, () -> x.wave(0, -1));
        Check.refuses("5: minute 100000", ARGUMENT, x, () -> x.wave(0, 100000));
        Check.same("5: without swells", x.wave(0, 0), 0);
        Check.same("5: the last minute", x.wave(0, 99999), 0);
    }

    private static void bestMinutes() {
        Prioritywave x = new Prioritywave();
        x.swell(100, 5, 0, 0, 99999);
        x.bank(0, 100, 0, 400);
        Check.same("6: of several the earliest", x.best(0, 0, 20, 5), 0);
        Check.same("6: one minute", x.best(0, 1, 20, 1), 5);
        Check.same("6: six minutes with two waves", x.best(0, 1, 20, 6), 5);
        Check.same("6: seven minutes with two waves", x.best(0, 1, 20, 7), 4);
        Check.same("6: the latest first minute counts", x.best(0, 1, 5, 1), 5);
        Check.same("6: only one", x.best(0, 3, 3, 1), 3);
        x.swell(100, 5, 0, 50, 60);
        Check.same("6: where two swells are", x.best(0, 0, 100, 10), 47);
        x.swell(600, 5, 0, 90, 95);
        Check.same("6: where one is high", x.best(0, 0, 100, 60), 33);
    }

    private static void bestBounds() {
        Prioritywave x = new Prioritywave();
        Check.refuses("6: no bank goes first", INDEX, x, () -> x.best(0, 5, 4, 0));
        x.swell(100, 5, 0, 0, 99999);
        x.bank(0, 100, 0, 400);
        Check.refuses("6: bank 1", INDEX, x, () -> x.best(1, 0, 0, 1));
        Check.refuses("6: from -1", ARGUMENT, x, () -> x.best(0, -1, 0, 1));
        Check.refuses("6: to ahead of from", ARGUMENT, x, () -> x.best(0, 5, 4, 1));
        Check.refuses("6: 2001 behind", ARGUMENT, x, () -> x.best(0, 0, 2001, 1));
        Check.same("6: 2000 behind", x.best(0, 1, 2001, 60), 1);
        Check.refuses("6: no minutes", ARGUMENT, x, () -> x.best(0, 0, 0, 0));
        Check.refuses("6: 61 minutes", ARGUMENT, x, () -> x.best(0, 0, 0, 61));
        Check.refuses("6: a minute above 99999", ARGUMENT, x, () -> x.best(0, 99950, 99990, 11));
        Check.same("6: up to 99999", x.best(0, 99989, 99990, 10), 99989);
        Check.same("6: the last minute", x.best(0, 99999, 99999, 1), 99999);
        Check.refuses("6: from 100000", ARGUMENT, x, () -> x.best(0, 100000, 100000, 1));
        Check.refuses("6: far too late", ARGUMENT, x, () -> x.best(0, 0, Integer.MAX_VALUE, 60));
        Check.refuses("6: far too early", ARGUMENT, x, () -> x.best(0, Integer.MIN_VALUE, 0, 1));
    }

    /** "400 times how far the rest of the minute by 744 is from 372, divided by 372, cut": each minute. */
    private static void everyTide() {
        int wrong = 0;
        Prioritywave x = new Prioritywave();
        for (int minute = 0; minute <= 99999; minute++) {
            if (minute % 500 == 0) {
                x = new Prioritywave();
            }
            int rest = minute;
            while (rest >= 744) {
                rest -= 744;
            }
            int far = rest < 372 ? 372 - rest : rest - 372;
            int tide = x.tide(minute);
            wrong += tide * 372 <= 400 * far && 400 * far < (tide + 1) * 372 ? 0 : 1;
        }
        Check.same("4: wrong tides", wrong, 0);
    }

    /** "if the rest of 7 times the minute plus 3 times its number by its period is 0": each number, each period. */
    private static void everyNumberAndPeriod() {
        for (int number = 0; number < 6; number++) {
            for (int period = 5; period <= 20; period++) {
                Prioritywave x = new Prioritywave();
                x.bank(0, 100, 0, 400);
                for (int i = 0; i < number; i++) {
                    x.swell(600, 5, 0, 70000, 70000);
                }
                x.swell(100, period, 0, 0, 99999);
                int wrong = 0;
                for (int minute = 0; minute < 60; minute++) {
                    int late = 99931 + minute;
                    wrong += x.wave(0, minute) == (isWave(minute, number, period) ? 100 : 0) ? 0 : 1;
                    wrong += x.wave(0, late) == (isWave(late, number, period) ? 100 : 0) ? 0 : 1;
                }
                Check.same("5: wrong minutes of the swell " + number + " of the period " + period, wrong, 0);
            }
        }
    }

    private static boolean isWave(int minute, int number, int period) {
        return (7 * minute + 3 * number) / period * period == 7 * minute + 3 * number;
    }

    /** "100 less half of the lesser angle between both directions, cut": each angle, either way round. */
    private static void everyAngle() {
        int[] directions = {0, 1, 180, 359};
        for (int from = 0; from < 360; from++) {
            Prioritywave x = new Prioritywave();
            x.swell(600, 5, from, 0, 0);
            for (int bank = 0; bank < directions.length; bank++) {
                x.bank(directions[bank], 101, 0, 400);
                int steps = 0;
                for (int at = from; at != directions[bank]; at = at == 359 ? 0 : at + 1) {
                    steps++;
                }
                int angle = steps > 180 ? 360 - steps : steps;
                int half = angle % 2 == 0 ? angle / 2 : (angle - 1) / 2;
                Check.same("5: from " + from + " to " + directions[bank], x.wave(bank, 0), 606 * (100 - half) / 100);
            }
        }
    }

    /** "its height is the swell's times the share, divided by 100, cut": the least, the greatest and cut ones. */
    private static void everyShare() {
        int[][] due = {{50, 10, 0}, {50, 59, 0}, {50, 60, 30}, {299, 10, 0}, {300, 10, 30}, {600, 10, 60},
            {50, 200, 100}, {600, 200, 1200}, {333, 101, 336}, {199, 199, 396}, {555, 33, 183}, {101, 99, 99}};
        for (int[] one : due) {
            Prioritywave x = new Prioritywave();
            x.swell(one[0], 5, 7, 0, 0);
            x.bank(7, one[1], 0, 400);
            Check.same("5: " + one[0] + " by the share " + one[1], x.wave(0, 0), one[2]);
        }
    }

    /** "below 30 there is none": 30 and 29, by the share and by the angle. */
    private static void leastWave() {
        Prioritywave x = new Prioritywave();
        x.swell(50, 5, 0, 0, 0);
        x.bank(0, 60, 0, 400);
        x.bank(0, 59, 0, 400);
        x.bank(100, 120, 0, 400);
        x.bank(102, 120, 0, 400);
        Check.same("5: 30 by the share", x.wave(0, 0), 30);
        Check.same("5: 29 by the share", x.wave(1, 0), 0);
        Check.same("5: 30 by the angle", x.wave(2, 0), 30);
        Check.same("5: 29 by the angle", x.wave(3, 0), 0);
        x.swell(51, 5, 180, 1, 1);
        Check.same("5: a tenth", x.wave(0, 1), 0);
    }

    /** "The wave of a minute is the highest one that is made": whichever swell makes it, of those that are there. */
    private static void highestWave() {
        for (int highest = 0; highest < 6; highest++) {
            Prioritywave x = new Prioritywave();
            x.bank(0, 100, 0, 400);
            for (int number = 0; number < 6; number++) {
                x.swell(heightOf(number, highest), 5, 0, 0, 99999);
            }
            for (int minute = 0; minute < 5; minute++) {
                // Of a period of 5, the swell n has its waves in the minutes n, n + 5, ..: so do 0 and 5 in the same.
                int due = minute > 0 ? heightOf(minute, highest) : Math.max(heightOf(0, highest), heightOf(5, highest));
                Check.same("5: the highest one in the minute " + minute, x.wave(0, minute), due);
            }
        }
    }

    private static int heightOf(int number, int highest) {
        return number == highest ? 300 : 100 + number;
    }

    /** "the least and the greatest tide at which it works": both count, one less and one more do not. */
    private static void edgesOfTide() {
        for (int minute : new int[] {0, 5, 185, 370, 375, 740}) {
            Prioritywave x = new Prioritywave();
            x.swell(100, 5, 0, 0, 99999);
            int tide = x.tide(minute);
            x.bank(0, 100, tide, tide);
            x.bank(0, 100, 0, tide);
            x.bank(0, 100, tide, 400);
            Check.same("5: at this tide alone, minute " + minute, x.wave(0, minute), 100);
            Check.same("5: up to this tide, minute " + minute, x.wave(1, minute), 100);
            Check.same("5: from this tide on, minute " + minute, x.wave(2, minute), 100);
            if (tide > 0) {
                x.bank(0, 100, 0, tide - 1);
                Check.same("5: up to one less, minute " + minute, x.wave(3, minute), 0);
            }
            Prioritywave y = new Prioritywave();
            y.swell(100, 5, 0, 0, 99999);
            if (tide < 400) {
                y.bank(0, 100, tide + 1, 400);
                Check.same("5: from one more on, minute " + minute, y.wave(0, minute), 0);
            }
        }
    }

    private static Prioritywave roughSea() {
        Prioritywave x = new Prioritywave();
        x.swell(120, 7, 10, 0, 99999);
        x.swell(300, 11, 50, 100, 1500);
        x.swell(90, 5, 300, 50, 99999);
        x.swell(600, 13, 200, 99900, 99999);
        x.bank(20, 90, 30, 380);
        return x;
    }

    /** The heights of the waves from a minute on, asked for on objects of their own. */
    private static int[] heights(int from, int count) {
        int[] heights = new int[count];
        Prioritywave x = roughSea();
        for (int i = 0; i < count; i++) {
            if (i % 500 == 0) {
                x = roughSea();
            }
            heights[i] = x.wave(0, from + i);
        }
        return heights;
    }

    /** "the first minute at which so many minutes have the greatest sum of waves .. of several the earliest". */
    private static void everySearch() {
        int[] starts = {0, 1, 40, 93, 101, 700, 1400, 97900, 97940};
        for (int from : starts) {
            int[] heights = heights(from, Math.min(2060, 100000 - from));
            for (int minutes : new int[] {1, 2, 3, 7, 30, 59, 60}) {
                Prioritywave x = roughSea();
                for (int length : new int[] {0, 1, 2, 5, 6, 7, 20, 100, 1999, 2000}) {
                    int to = Math.min(from + length, 100000 - minutes);
                    Check.same("6: " + minutes + " minutes from " + from + " to " + to, x.best(0, from, to, minutes),
                            from + slowBest(heights, to - from, minutes));
                }
            }
        }
    }

    private static int slowBest(int[] heights, int last, int minutes) {
        int best = 0;
        int greatest = -1;
        for (int first = 0; first <= last; first++) {
            int sum = 0;
            for (int i = first; i < first + minutes; i++) {
                sum += heights[i];
            }
            if (sum > greatest) {
                greatest = sum;
                best = first;
            }
        }
        return best;
    }

    private static void searchWithoutWaves() {
        Prioritywave x = new Prioritywave();
        x.bank(0, 100, 0, 400);
        Check.same("6: no swell, the earliest", x.best(0, 17, 2017, 60), 17);
        x.swell(100, 5, 0, 5000, 5000);
        Check.same("6: no wave in it, the earliest", x.best(0, 3000, 4940, 60), 3000);
        Check.same("6: a wave in the last minute of all", x.best(0, 3000, 4941, 60), 4941);
        Check.same("6: a wave in the first minute of all", x.best(0, 5000, 5100, 60), 5000);
        Check.same("6: a wave just ahead", x.best(0, 5001, 5100, 60), 5001);
    }
}
