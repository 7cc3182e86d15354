import java.util.NoSuchElementException;

/** None, one, as many as there may be, and one more: of all that the document counts. */
final class LimitTest {
    private static final Class<IllegalArgumentException> ARGUMENT = IllegalArgumentException.class;
    private static final Class<IllegalStateException> STATE = IllegalStateException.class;
    private static final Class<IndexOutOfBoundsException> INDEX = IndexOutOfBoundsException.class;
    private static final Class<UnsupportedOperationException> SUPPORT = UnsupportedOperationException.class;
    private static final Class<NoSuchElementException> ELEMENT = NoSuchElementException.class;
    private static final Class<ArithmeticException> ARITHMETIC = ArithmeticException.class;

    private LimitTest() {
    }

    static void run() {
        swells();
        banks();
        surfers();
        heats();
        surfersOfHeats();
        marks();
        events();
        surfersOfEvents();
        heatsByRounds();
        heatsOfEachRound();
        ridesOnOneWave();
        ridesOfOneSurfer();
        interferences();
        leavers();
        drops();
        cuts();
        calls();
    }

    /** "At most 6 swells are numbered from 0": with each one a wave comes in one minute more. */
    private static void swells() {
        Prioritywave x = new Prioritywave();
        x.bank(0, 100, 0, 400);
        for (int count = 0; count <= 6; count++) {
            for (int swell = 0; swell < 6; swell++) {
                Check.same("5: of " + count + " swells", x.wave(0, 100 + swell), swell < count ? 100 + swell : 0);
            }
            if (count < 6) {
                // The rest of 7m + 3n by 20 is 0 for one of the minutes m; a swell is there in its own minute alone.
                int minute = 100 + count;
                int period = periodFor(count, minute);
                Check.same("2: number", x.swell(100 + count, period, 0, minute, minute), count);
            }
        }
        Check.refuses("2: a seventh", STATE, x, () -> x.swell(50, 5, 0, 0, 99999));
        Check.same("5: the sixth one is there", x.wave(0, 105), 105);
    }

    private static int periodFor(int swell, int minute) {
        for (int period = 5; period <= 20; period++) {
            if ((7 * minute + 3 * swell) % period == 0) {
                return period;
            }
        }
        throw new IllegalStateException("no period for the swell " + swell);
    }

    /** "At most 4 banks are numbered from 0". */
    private static void banks() {
        Prioritywave x = new Prioritywave();
        x.swell(100, 5, 0, 0, 0);
        for (int count = 0; count <= 4; count++) {
            for (int bank = 0; bank < count; bank++) {
                Check.same("5: at the bank " + bank, x.wave(bank, 0), 100 + bank);
            }
            int next = count;
            Check.refuses("5: no bank " + next, INDEX, x, () -> x.wave(next, 0));
            if (count < 4) {
                Check.same("3: number", x.bank(0, 100 + count, 0, 400), count);
            }
        }
        Check.refuses("3: a fifth", STATE, x, () -> x.bank(0, 100, 0, 400));
    }

    /** "At most 16 are numbered from 0". */
    private static void surfers() {
        Prioritywave x = new Prioritywave();
        for (int count = 0; count <= 16; count++) {
            for (int seed = 0; seed < count; seed++) {
                Check.same("36: seed of " + count, x.seed(seed), count - 1 - seed);
            }
            int next = count;
            Check.refuses("36: no seed " + next, ELEMENT, x, () -> x.seed(next));
            Check.refuses("35: no surfer " + next, INDEX, x, () -> x.points(next));
            if (count < 16) {
                Check.same("7: number", x.surfer(count), count);
            }
        }
        Check.refuses("7: a seventeenth", STATE, x, () -> x.surfer(0));
    }

    /** "At most 40 heats are numbered from 0". */
    private static void heats() {
        Prioritywave x = RangeTest.everyMinute(2);
        Check.refuses("40: of none", ARITHMETIC, x, () -> x.openShare());
        Check.same("39: of none", x.checksum(), 7);
        Check.yes("42: of none", x.isSound());
        long due = 7;
        for (int count = 0; count < 40; count++) {
            int next = count;
            Check.refuses("18: no heat " + next, INDEX, x, () -> x.isOpen(next));
            Check.same("8: number", x.heat(0, 0, 10, 3), count);
            due = (31 * (31 * due) + 2);
            due = (31 * (31 * due) + 2);
            Check.same("39: of " + (count + 1), x.checksum(), due);
            Check.sameDouble("40: all are open", x.openShare(), 1.0);
        }
        Check.refuses("8: a 41st", STATE, x, () -> x.heat(0, 0, 10, 3));
        Check.same("9: in the 40th", x.ride(39, 1, 5, 0, false), 500);
        Check.same("17: the 40th", x.close(39), 1);
        Check.sameDouble("40: one of 40 is closed", x.openShare(), 39.0f / 40.0f);
        Check.refuses("8: a 41st, though one is closed", STATE, x, () -> x.heat(0, 0, 10, 3));
        Check.yes("42: of 40", x.isSound());
    }

    /** "each of 2 to 4 surfers". */
    private static void surfersOfHeats() {
        for (int count = 0; count <= 5; count++) {
            int surfers = (1 << count) - 1;
            Prioritywave x = RangeTest.everyMinute(6);
            if (count < 2 || count > 4) {
                Check.refuses("8: " + count + " of six", ARGUMENT, x, () -> x.heat(0, 0, 10, surfers));
            } else {
                Check.same("8: " + count + " of six", x.heat(0, 0, 10, surfers), 0);
                Check.same("25: the last rank", x.ranked(0, count), count - 1);
                Check.same("15: how many are left", x.leave(0, 0, 0), count - 1);
            }
        }
        Prioritywave x = new Prioritywave();
        x.bank(0, 100, 0, 400);
        Check.refuses("8: nobody is there", ARGUMENT, x, () -> x.heat(0, 0, 10, 3));
        x.surfer(0);
        Check.refuses("8: one is there", ARGUMENT, x, () -> x.heat(0, 0, 10, 3));
        x.surfer(0);
        Check.same("8: two are there", x.heat(0, 0, 10, 3), 0);
    }

    /** "how many are typed", up to 30, and wiped. */
    private static void marks() {
        Prioritywave x = new Prioritywave();
        for (int count : new int[] {0, 1, 30, 4}) {
            for (int i = 1; i <= count; i++) {
                Check.same("10: typed", x.mark(1000), i);
            }
            if (count == 30) {
                Check.refuses("10: a 31st", STATE, x, () -> x.mark(0));
            }
            Check.same("11: wiped", x.wipe(), count);
            Check.same("11: none are left", x.wipe(), 0);
        }
        Prioritywave y = RangeTest.everyMinute(2);
        y.heat(0, 0, 10, 3);
        y.wipe();
        for (int i = 0; i < 30; i++) {
            y.mark(i < 25 ? 0 : 900);
        }
        Check.refuses("10: a 31st", STATE, y, () -> y.mark(5));
        Check.same("9: the last five of thirty", y.ride(0, 0, 0, 25, false), 900);
        Check.same("9: the five ahead of them", y.ride(0, 0, 1, 20, false), 0);
        y.wipe();
        for (int i = 0; i < 5; i++) {
            y.mark(100);
        }
        Check.refuses("9: what was wiped is not typed", ARGUMENT, y, () -> y.ride(0, 0, 2, 25, false));
        Check.refuses("9: nor a sixth one", ARGUMENT, y, () -> y.ride(0, 0, 2, 1, false));
        Check.same("9: the five typed anew", y.ride(0, 0, 2, 0, false), 100);
    }

    /** "At most 4 events are numbered from 0". */
    private static void events() {
        Prioritywave x = EventTest.tour(12);
        for (int count = 0; count < 4; count++) {
            int next = count;
            Check.refuses("30: no event " + next, INDEX, x, () -> x.rounds(next));
            Check.same("28: number", x.event(0), count);
            Check.same("30: none was made", x.rounds(count), 0);
        }
        Check.refuses("28: a fifth", STATE, x, () -> x.event(0));
        Check.same("29: a round of the last one", x.round(3, 0), 0);
    }

    /** "each with 12 surfers", of 11 to 16, of whom some are cut. */
    private static void surfersOfEvents() {
        for (int count = 10; count <= 16; count++) {
            Prioritywave x = EventTest.tour(count);
            if (count < 12) {
                Check.refuses("28: of " + count, SUPPORT, x, () -> x.event(0));
                continue;
            }
            Check.same("28: of " + count, x.event(0), 0);
            x.cut(12);
            Check.same("28: twelve are kept", x.event(0), 1);
            x.cut(11);
            Check.refuses("28: eleven are kept", SUPPORT, x, () -> x.event(0));
            x.round(1, 0);
            for (int surfer = 0; surfer < 12; surfer++) {
                int index = surfer < 4 ? 0 : surfer < 8 ? 1 : 2;
                int heat = surfer < 4 ? surfer : surfer < 8 ? 7 - surfer : surfer - 8;
                Check.same("29: each one in one heat of the round 1", x.surferAt(heat, index), surfer);
            }
        }
    }

    /** "if there would be more than 40 heats", by rounds of four. */
    private static void heatsByRounds() {
        for (int before = 35; before <= 40; before++) {
            Prioritywave x = EventTest.tour(12);
            x.event(0);
            for (int i = 0; i < before; i++) {
                x.heat(0, 0, 10, 3);
            }
            if (before <= 36) {
                Check.same("29: four behind " + before, x.round(0, 0), before);
                Check.same("31: the last one", x.heatOf(0, 1, 3), before + 3);
            } else {
                Check.refuses("29: four behind " + before, STATE, x, () -> x.round(0, 0));
                Check.same("30: no round", x.rounds(0), 0);
            }
        }
    }

    /** The same for each round: just as many heats as can be, and one too many. */
    private static void heatsOfEachRound() {
        int[] sizes = {4, 4, 4, 2, 1};
        int made = 0;
        for (int round = 1; round <= 5; round++) {
            int size = sizes[round - 1];
            for (int over = 0; over <= 1; over++) {
                Prioritywave x = RangeTest.begun(round - 1);
                int before = 40 - size + over;
                for (int heat = made; heat < before; heat++) {
                    x.heat(0, 0, 10, 3);
                }
                closeRound(x, round - 1);
                if (over == 0) {
                    Check.same("29: the round " + round + ", up to 40", x.round(0, 0), before);
                    Check.same("30: made", x.rounds(0), round);
                    Check.same("31: the last one", x.heatOf(0, round, size - 1), 39);
                } else {
                    Check.refuses("29: the round " + round + ", above 40", STATE, x, () -> x.round(0, 0));
                    Check.same("30: not made", x.rounds(0), round - 1);
                }
            }
            made += size;
        }
    }

    private static void closeRound(Prioritywave x, int round) {
        for (int index = 0; round > 0 && index < (round < 4 ? 4 : 2); index++) {
            x.close(x.heatOf(0, round, index));
        }
    }

    /** "Two rides of one heat in the same minute are on the same wave; a surfer rides it once." */
    private static void ridesOnOneWave() {
        Prioritywave x = RangeTest.everyMinute(4);
        x.heat(0, 0, 10, 15);
        x.heat(0, 0, 10, 15);
        for (int minute = 0; minute < 10; minute++) {
            int at = minute;
            x.ride(0, 0, minute, 0, false);
            x.ride(0, 3, minute, 0, false);
            for (int surfer = 0; surfer < 4; surfer++) {
                int rider = surfer;
                Check.refuses("9: two rode it", SUPPORT, x, () -> x.ride(0, rider, at, 0, false));
            }
            Check.same("9: in another heat nobody did", x.ride(1, 1, minute, 0, false), 500);
        }
        Check.same("27: two rides in each minute", x.acts(0), 20);
        Check.same("27: one ride in each minute", x.acts(1), 10);
    }

    /** A wave in each minute of the longest heat: 60 rides of one surfer, and none more. */
    private static void ridesOfOneSurfer() {
        Prioritywave x = RangeTest.everyMinute(2);
        x.heat(0, 0, 60, 3);
        x.wipe();
        for (int i = 0; i < 30; i++) {
            x.mark(i);
        }
        int sum = 0;
        for (int minute = 0; minute < 60; minute++) {
            int score = minute * 7 % 26 + 2;
            Check.same("9: score", x.ride(0, 1, minute, minute * 7 % 26, false), score);
            sum += score;
        }
        int before = 1000;
        for (int index = 0; index < 60; index++) {
            int score = x.score(0, 1, index);
            Check.yes("21: the greatest one first", score <= before);
            before = score;
            sum -= score;
        }
        Check.same("21: all of them", sum, 0);
        Check.refuses("21: no 61st", ELEMENT, x, () -> x.score(0, 1, 60));
        Check.refuses("9: no 61st", SUPPORT, x, () -> x.ride(0, 1, 60, 0, false));
        Check.refuses("9: nor in the last minute again", SUPPORT, x, () -> x.ride(0, 1, 59, 0, false));
        Check.same("22: the two best", x.total(0, 1), 27 + 27);
        Check.yes("42: sound", x.isSound());
    }

    /** None, one and two interferences of each kind; with two a surfer is out, so there is no third one. */
    private static void interferences() {
        for (int count = 0; count <= 2; count++) {
            Prioritywave x = RangeTest.everyMinute(4);
            x.heat(0, 0, 60, 15);
            x.suspend(0, 3, 0);
            for (int i = 0; i < count; i++) {
                x.ride(0, 0, i, 0, false);
                x.ride(0, 3, i, 0, true);
            }
            Check.same("23: by p", x.hindered(0, 3, 'p'), count);
            Check.same("23: none by n", x.hindered(0, 3, 'n'), 0);
            Check.same("22: the best one alone", x.total(0, 3), count == 0 ? 0 : 500);
            Check.same("19: in the row, or out", x.place(0, 3) == -2 ? 1 : 0, count == 2 ? 1 : 0);
        }
        for (int count = 0; count <= 1; count++) {
            Prioritywave x = RangeTest.everyMinute(4);
            x.heat(0, 0, 60, 15);
            x.ride(0, 0, 0, 0, false);
            x.ride(0, 3, 0, 0, count == 1);
            x.ride(0, 3, 1, 0, false);
            Check.same("23: by n", x.hindered(0, 3, 'n'), count);
            Check.same("23: none by p", x.hindered(0, 3, 'p'), 0);
            Check.same("22: the second one whole or half", x.total(0, 3), count == 0 ? 1000 : 750);
            Check.same("19: in the row", x.place(0, 3), 1);
        }
    }

    /** From four to nobody who is left. */
    private static void leavers() {
        Prioritywave x = RangeTest.everyMinute(4);
        x.heat(0, 0, 10, 15);
        Check.refuses("20: four are alike", ELEMENT, x, () -> x.first(0));
        Check.same("15: three are left", x.leave(0, 1, 0), 3);
        Check.refuses("20: three are alike", ELEMENT, x, () -> x.first(0));
        Check.same("15: two are left", x.leave(0, 2, 0), 2);
        Check.refuses("20: two are alike", ELEMENT, x, () -> x.first(0));
        Check.same("15: one is left", x.leave(0, 3, 0), 1);
        Check.same("20: the one who is left", x.first(0), 0);
        Check.same("15: nobody is left", x.leave(0, 0, 0), 0);
        Check.refuses("20: nobody is left", ELEMENT, x, () -> x.first(0));
        Check.same("24: ranked as told", x.rank(0, 3), 4);
        Check.yes("42: sound", x.isSound());
    }

    /** "but of as many as are dropped, 0 to 3, the least ones": of none to four events. */
    private static void drops() {
        int[] sums = {0, 10000, 20000, 20000, 20000};
        Prioritywave x = EventTest.tour(12);
        for (int count = 0; count <= 4; count++) {
            for (int dropped = 0; dropped <= 3; dropped++) {
                x.drop(dropped);
                int kept = Math.max(0, count - dropped);
                Check.same("35: " + dropped + " of " + count, x.points(0), Math.min(sums[count], 10000 * kept));
            }
            x.drop(0);
            if (count < 4) {
                x.event(0);
            }
            if (count < 2) {
                EventTest.whole(x, count);
            }
        }
    }

    /** "A cut keeps the first ones of all seeds, as many as are told": each number of each number of surfers. */
    private static void cuts() {
        for (int surfers = 0; surfers <= 16; surfers++) {
            for (int kept = 1; kept <= 16; kept++) {
                Prioritywave x = EventTest.tour(surfers);
                Check.same("37: of " + surfers + " all but " + kept, x.cut(kept), Math.max(0, surfers - kept));
                for (int surfer = 0; surfer < surfers; surfer++) {
                    Check.same("38: cut or kept", x.isCut(surfer) ? 1 : 0, surfer < kept ? 0 : 1);
                }
                Check.same("37: none more", x.cut(kept), 0);
            }
        }
    }

    /** "An object is used for at most 512 calls": as many acts as can be told in them are told. */
    private static void calls() {
        Prioritywave x = new Prioritywave();
        x.bank(0, 100, 0, 400);
        x.surfer(0);
        x.surfer(0);
        x.heat(0, 0, 10, 3);
        for (int call = 5; call <= 510; call++) {
            Check.same("14: the last place", x.suspend(0, call % 2, call < 300 ? 0 : 9), 1);
        }
        Check.same("27: the 511th call", x.acts(0), 506);
        Check.yes("42: the 512th call", x.isSound());
    }
}
