import java.util.NoSuchElementException;
import java.util.function.IntFunction;

/**
 * "IllegalArgumentException if a number is out of range", "IndexOutOfBoundsException if there is no such ..",
 * "NoSuchElementException if there is none" and "UnsupportedOperationException if the minute does not fit": for each
 * number of each call the least and the greatest value that is taken, and what is refused a step outside and farthest
 * outside, each on an object of its own.
 */
final class RangeTest {
    private static final Class<IllegalArgumentException> ARGUMENT = IllegalArgumentException.class;
    private static final Class<IndexOutOfBoundsException> INDEX = IndexOutOfBoundsException.class;
    private static final Class<UnsupportedOperationException> SUPPORT = UnsupportedOperationException.class;
    private static final Class<NoSuchElementException> ELEMENT = NoSuchElementException.class;

    /** A call on an object with one number of the test's choice. */
    private interface Call {
        void tell(Prioritywave x, int value);
    }

    private RangeTest() {
    }

    static void run() {
        swells();
        banks();
        minutes();
        searches();
        searchesAlike();
        surfersAndMarks();
        heatNumbers();
        heatSurfers();
        actMinutes();
        actMinutesBehindAnAct();
        restartMinutes();
        marksOfRide();
        kinds();
        orders();
        needRanks();
        events();
        rounds();
        tourNumbers();
        bankIndices();
        heatIndices();
        surferIndices();
        eventIndices();
    }

    /** From low to high taken, with low above high for none; all else refused, and nothing changed by that. */
    private static void range(String what, IntFunction<Prioritywave> made, int low, int high,
            Class<? extends RuntimeException> refusal, Call call) {
        for (int value : low <= high ? new int[] {low, high} : new int[0]) {
            Prioritywave x = made.apply(value);
            String got = "an answer";
            try {
                call.tell(x, value);
            } catch (RuntimeException thrown) {
                got = "throws " + thrown;
            }
            Check.tell(got.equals("an answer"), what + " " + value, got, "an answer");
        }
        for (long value : new long[] {low - 1L, high + 1L, Integer.MIN_VALUE, Integer.MAX_VALUE}) {
            boolean isInRange = value >= low && value <= high;
            if (value == (int) value && !isInRange) {
                Prioritywave x = made.apply((int) value);
                Check.refuses(what + " " + value, refusal, x, () -> call.tell(x, (int) value));
            }
        }
    }

    private static Prioritywave empty(int value) {
        return new Prioritywave();
    }

    /** A wave of 100 in each minute, for the swells 0 to 4 of a period of 5 have one in each five minutes in turn. */
    static Prioritywave everyMinute(int surfers) {
        Prioritywave x = new Prioritywave();
        for (int i = 0; i < 5; i++) {
            x.swell(100, 5, 0, 0, 99999);
        }
        x.bank(0, 100, 0, 400);
        for (int i = 0; i < 7; i++) {
            x.mark(500);
        }
        for (int i = 0; i < surfers; i++) {
            x.surfer(0);
        }
        return x;
    }

    /** A heat of three from the minute 100 to 109, with waves in all of them, and a surfer who is not in it. */
    static Prioritywave tenMinutes(int value) {
        Prioritywave x = everyMinute(4);
        x.heat(0, 100, 10, 7);
        return x;
    }

    private static void swells() {
        range("2: height", RangeTest::empty, 50, 600, ARGUMENT, (x, v) -> x.swell(v, 10, 100, 20, 30));
        range("2: period", RangeTest::empty, 5, 20, ARGUMENT, (x, v) -> x.swell(100, v, 100, 20, 30));
        range("2: direction", RangeTest::empty, 0, 359, ARGUMENT, (x, v) -> x.swell(100, 10, v, 20, 30));
        range("2: first minute", RangeTest::empty, 0, 99999, ARGUMENT, (x, v) -> x.swell(100, 10, 100, v, 99999));
        range("2: last minute", RangeTest::empty, 0, 99999, ARGUMENT, (x, v) -> x.swell(100, 10, 100, 0, v));
        range("2: first minute, not behind the last one", RangeTest::empty, 0, 700, ARGUMENT,
                (x, v) -> x.swell(100, 10, 100, v, 700));
        range("2: last minute, not ahead of the first one", RangeTest::empty, 700, 99999, ARGUMENT,
                (x, v) -> x.swell(100, 10, 100, 700, v));
    }

    private static void banks() {
        range("3: direction", RangeTest::empty, 0, 359, ARGUMENT, (x, v) -> x.bank(v, 100, 10, 300));
        range("3: share", RangeTest::empty, 10, 200, ARGUMENT, (x, v) -> x.bank(100, v, 10, 300));
        range("3: least tide", RangeTest::empty, 0, 400, ARGUMENT, (x, v) -> x.bank(100, 100, v, 400));
        range("3: greatest tide", RangeTest::empty, 0, 400, ARGUMENT, (x, v) -> x.bank(100, 100, 0, v));
        range("3: least tide, not above the greatest one", RangeTest::empty, 0, 250, ARGUMENT,
                (x, v) -> x.bank(100, 100, v, 250));
        range("3: greatest tide, not below the least one", RangeTest::empty, 250, 400, ARGUMENT,
                (x, v) -> x.bank(100, 100, 250, v));
    }

    private static void minutes() {
        range("4: minute", RangeTest::empty, 0, 99999, ARGUMENT, (x, v) -> x.tide(v));
        range("5: minute", v -> everyMinute(0), 0, 99999, ARGUMENT, (x, v) -> x.wave(0, v));
    }

    private static void searches() {
        IntFunction<Prioritywave> sea = v -> everyMinute(0);
        range("6: from", sea, 0, 1000, ARGUMENT, (x, v) -> x.best(0, v, 1000, 1));
        range("6: from, at most 2000 ahead", sea, 1000, 3000, ARGUMENT, (x, v) -> x.best(0, v, 3000, 60));
        range("6: to, at most 2000 behind", sea, 3000, 5000, ARGUMENT, (x, v) -> x.best(0, 3000, v, 1));
        range("6: to, at most 2000 behind the first minute", sea, 0, 2000, ARGUMENT, (x, v) -> x.best(0, 0, v, 60));
        range("6: to, no minute above 99999", sea, 98000, 99940, ARGUMENT, (x, v) -> x.best(0, 98000, v, 60));
        range("6: to, of one minute", sea, 98000, 99999, ARGUMENT, (x, v) -> x.best(0, 98000, v, 1));
        range("6: minutes", sea, 1, 60, ARGUMENT, (x, v) -> x.best(0, 100, 200, v));
        range("6: minutes, none above 99999", sea, 1, 30, ARGUMENT, (x, v) -> x.best(0, 99000, 99970, v));
        range("6: minutes, 60 up to 99999", sea, 1, 60, ARGUMENT, (x, v) -> x.best(0, 99940, 99940, v));
        range("6: minutes, 59 up to 99999", sea, 1, 59, ARGUMENT, (x, v) -> x.best(0, 99941, 99941, v));
    }

    /** From and to alike, so that neither is ahead of the other one. */
    private static void searchesAlike() {
        range("6: both minutes", v -> everyMinute(0), 0, 99999, ARGUMENT, (x, v) -> x.best(0, v, v, 1));
        range("6: both minutes, ten of them", v -> everyMinute(0), 0, 99990, ARGUMENT, (x, v) -> x.best(0, v, v, 10));
    }

    private static void surfersAndMarks() {
        range("7: points of the year before", RangeTest::empty, 0, 99999, ARGUMENT, (x, v) -> x.surfer(v));
        range("10: mark", RangeTest::empty, 0, 1000, ARGUMENT, (x, v) -> x.mark(v));
    }

    private static void heatNumbers() {
        range("8: first minute", v -> everyMinute(3), 0, 99939, ARGUMENT, (x, v) -> x.heat(0, v, 60, 3));
        range("8: first minute of a short one", v -> everyMinute(3), 0, 99939, ARGUMENT, (x, v) -> x.heat(0, v, 10, 3));
        range("8: how long", v -> everyMinute(3), 10, 60, ARGUMENT, (x, v) -> x.heat(0, 0, v, 3));
    }

    /** Each sum of powers of 2 of six surfers: taken with two to four of them, refused with none, one, five or six. */
    private static void heatSurfers() {
        for (int sum = 0; sum < 64; sum++) {
            int surfers = sum;
            int count = 0;
            for (int power = 1; power <= sum; power *= 2) {
                count += sum / power % 2;
            }
            Prioritywave x = everyMinute(6);
            if (count < 2 || count > 4) {
                Check.refuses("8: surfers " + sum, ARGUMENT, x, () -> x.heat(0, 0, 10, surfers));
                continue;
            }
            Check.same("8: surfers " + sum, x.heat(0, 0, 10, sum), 0);
            int index = 0;
            for (int surfer = 0; surfer < 6; surfer++) {
                if ((sum & 1 << surfer) != 0) {
                    Check.same("32: by rising numbers", x.surferAt(0, index), surfer);
                    index++;
                }
            }
            Check.refuses("32: no more", ELEMENT, x, () -> x.surferAt(0, Integer.bitCount(surfers)));
        }
        for (int power = 6; power < 32; power++) {
            int surfers = 3 | 1 << power;
            Prioritywave x = everyMinute(6);
            Check.refuses("8: surfers 0, 1 and " + power, ARGUMENT, x, () -> x.heat(0, 0, 10, surfers));
        }
        Prioritywave x = everyMinute(16);
        Check.refuses("8: surfers 0, 1 and 16", ARGUMENT, x, () -> x.heat(0, 0, 10, 3 | 1 << 16));
        Check.refuses("8: all sixteen", ARGUMENT, x, () -> x.heat(0, 0, 10, 65535));
        Check.refuses("8: surfers -1", ARGUMENT, x, () -> x.heat(0, 0, 10, -1));
        Check.same("8: the first one and the last one", x.heat(0, 0, 10, 1 << 15 | 1), 0);
        Check.same("32: the last one", x.surferAt(0, 1), 15);
        Check.same("8: the last four", x.heat(0, 0, 10, 61440), 1);
    }

    private static void actMinutes() {
        range("9: minute", RangeTest::tenMinutes, 100, 109, SUPPORT, (x, v) -> x.ride(0, 0, v, 0, false));
        range("12: minute", RangeTest::tenMinutes, 100, 109, SUPPORT, (x, v) -> x.miss(0, 0, v));
        range("13: minute", RangeTest::tenMinutes, 100, 109, SUPPORT, (x, v) -> x.block(0, 0, v));
        range("14: minute", RangeTest::tenMinutes, 100, 109, SUPPORT, (x, v) -> x.suspend(0, 0, v));
        range("15: minute", RangeTest::tenMinutes, 100, 109, SUPPORT, (x, v) -> x.leave(0, 0, v));
        IntFunction<Prioritywave> late = v -> {
            Prioritywave x = everyMinute(2);
            x.heat(0, 99939, 60, 3);
            return x;
        };
        range("9: minute of the latest and longest heat", late, 99939, 99998, SUPPORT,
                (x, v) -> x.ride(0, 0, v, 0, false));
        range("13: minute of the latest and longest heat", late, 99939, 99998, SUPPORT, (x, v) -> x.block(0, 0, v));
    }

    /** "acts are told with a minute, which is not ahead of that of the act before": whatever that act was. */
    private static void actMinutesBehindAnAct() {
        Call[] acts = {
            (x, v) -> x.ride(0, 1, v, 0, false), (x, v) -> x.miss(0, 1, v), (x, v) -> x.block(0, 1, v),
            (x, v) -> x.suspend(0, 1, v), (x, v) -> x.leave(0, 1, v)};
        for (int kind = 0; kind < acts.length; kind++) {
            Call act = acts[kind];
            IntFunction<Prioritywave> behind = v -> {
                Prioritywave x = tenMinutes(v);
                act.tell(x, 104);
                return x;
            };
            String what = "minute behind an act of the kind " + kind;
            range("9: " + what, behind, 104, 109, SUPPORT, (x, v) -> x.ride(0, 0, v, 0, false));
            range("12: " + what, behind, 104, 109, SUPPORT, (x, v) -> x.miss(0, 0, v));
            range("13: " + what, behind, 104, 109, SUPPORT, (x, v) -> x.block(0, 0, v));
            range("14: " + what, behind, 104, 109, SUPPORT, (x, v) -> x.suspend(0, 0, v));
            range("15: " + what, behind, 104, 109, SUPPORT, (x, v) -> x.leave(0, 0, v));
            if (kind > 0) {
                range("16: " + what, behind, 104, 109, SUPPORT, (x, v) -> x.restart(0, v));
            }
        }
    }

    private static void restartMinutes() {
        range("16: minute, at most the last one", RangeTest::tenMinutes, 100, 109, SUPPORT, (x, v) -> x.restart(0, v));
        IntFunction<Prioritywave> eleven = v -> {
            Prioritywave x = everyMinute(2);
            x.heat(0, 100, 11, 3);
            return x;
        };
        range("16: minute, ten behind the first one and the last one", eleven, 100, 110, SUPPORT,
                (x, v) -> x.restart(0, v));
        IntFunction<Prioritywave> sixty = v -> {
            Prioritywave x = everyMinute(2);
            x.heat(0, 100, 60, 3);
            return x;
        };
        range("16: minute, at most ten behind the first one", sixty, 100, 110, SUPPORT, (x, v) -> x.restart(0, v));
        IntFunction<Prioritywave> acted = v -> {
            Prioritywave x = sixty.apply(v);
            x.suspend(0, 0, 110);
            return x;
        };
        range("16: minute, that of the act before and ten behind the first one", acted, 110, 110, SUPPORT,
                (x, v) -> x.restart(0, v));
        IntFunction<Prioritywave> tooLate = v -> {
            Prioritywave x = sixty.apply(v);
            x.suspend(0, 0, 111);
            return x;
        };
        range("16: too late, whatever the minute", tooLate, 0, -1, SUPPORT, (x, v) -> x.restart(0, v));
        Prioritywave x = tooLate.apply(0);
        Check.refuses("16: eleven behind, that of the act before", SUPPORT, x, () -> x.restart(0, 111));
        Check.refuses("16: ten behind, ahead of the act before", SUPPORT, x, () -> x.restart(0, 110));
    }

    /** "if five marks are not typed from that place on": the places with none to thirty marks. */
    private static void marksOfRide() {
        for (int count = 0; count <= 30; count++) {
            int typed = count;
            IntFunction<Prioritywave> made = v -> {
                Prioritywave x = everyMinute(2);
                x.wipe();
                for (int i = 0; i < typed; i++) {
                    x.mark(i);
                }
                x.heat(0, 0, 10, 3);
                return x;
            };
            range("9: place of marks of " + count, made, 0, count < 5 ? -1 : count - 5, ARGUMENT,
                    (x, v) -> x.ride(0, 0, 0, v, false));
        }
    }

    private static void kinds() {
        Prioritywave x = tenMinutes(0);
        for (int sign = 0; sign < 65536; sign++) {
            char kind = (char) sign;
            if (kind != 'p' && kind != 'n' && (sign < 256 || sign % 1024 == 'p' || sign == 65535)) {
                Check.refuses("23: the kind of the number " + sign, ARGUMENT, x, () -> x.hindered(0, 0, kind));
            }
        }
        Check.same("23: by p", x.hindered(0, 0, 'p'), 0);
        Check.same("23: by n", x.hindered(0, 0, 'n'), 0);
    }

    /** Indices and ranks in heats of two to four, who have none, one or two scores. */
    private static void orders() {
        for (int count = 2; count <= 4; count++) {
            int surfers = count;
            IntFunction<Prioritywave> made = v -> {
                Prioritywave x = everyMinute(5);
                x.heat(0, 0, 10, (1 << surfers) - 1);
                x.ride(0, 1, 0, 0, false);
                x.ride(0, 0, 1, 0, false);
                x.ride(0, 0, 2, 0, false);
                return x;
            };
            range("32: index in a heat of " + count, made, 0, count - 1, ELEMENT, (x, v) -> x.surferAt(0, v));
            range("25: rank in a heat of " + count, made, 1, count, ELEMENT, (x, v) -> x.ranked(0, v));
            range("21: index of two scores", made, 0, 1, ELEMENT, (x, v) -> x.score(0, 0, v));
            range("21: index of one score", made, 0, 0, ELEMENT, (x, v) -> x.score(0, 1, v));
        }
        range("21: index of no score", RangeTest::tenMinutes, 0, -1, ELEMENT, (x, v) -> x.score(0, 0, v));
    }

    /** "Returns the score, 0 for a rank behind all", and no score does for one ahead of all. */
    private static void needRanks() {
        for (int place = 0; place < 3; place++) {
            int surfer = place;
            range("26: rank for the one told as " + place, RangeTest::tenMinutes, 1, Integer.MAX_VALUE, ELEMENT,
                    (x, v) -> x.need(0, surfer, v));
            Prioritywave x = tenMinutes(0);
            Check.same("26: for the last rank", x.need(0, surfer, 3), 0);
            Check.same("26: for a rank behind all", x.need(0, surfer, 4), 0);
            Check.same("26: for the farthest rank", x.need(0, surfer, Integer.MAX_VALUE), 0);
            x.ride(0, surfer, 100, 0, false);
            Check.same("26: for the last rank, with a score", x.need(0, surfer, 3), 0);
            Check.refuses("26: no rank 0", ELEMENT, x, () -> x.need(0, surfer, 0));
        }
    }

    /** Bank 0 of a tour that begins one event by each call. */
    private static void events() {
        for (int count = 0; count <= 4; count++) {
            int banks = count;
            IntFunction<Prioritywave> made = v -> {
                Prioritywave x = new Prioritywave();
                for (int i = 0; i < banks; i++) {
                    x.bank(0, 100, 0, 400);
                }
                for (int i = 0; i < 12; i++) {
                    x.surfer(0);
                }
                return x;
            };
            range("28: bank of " + count, made, 0, count - 1, INDEX, (x, v) -> x.event(v));
        }
    }

    private static void rounds() {
        range("29: first minute", v -> begun(0), 0, 99939, ARGUMENT, (x, v) -> x.round(0, v));
        for (int round = 0; round <= 5; round++) {
            int made = round;
            int last = round == 0 ? -1 : round < 4 ? 3 : round == 4 ? 1 : 0;
            range("31: round of " + round, v -> begun(made), 1, round, ELEMENT, (x, v) -> x.heatOf(0, v, 0));
            range("31: index in the round " + round, v -> begun(made), 0, last, ELEMENT,
                    (x, v) -> x.heatOf(0, made, v));
        }
        Prioritywave x = ended();
        Check.refuses("29: the round 5 was made", SUPPORT, x, () -> x.round(0, 99939));
    }

    /** An event of which so many rounds were made; the heats of the last one are open. */
    static Prioritywave begun(int rounds) {
        Prioritywave x = EventTest.tour(12);
        x.event(0);
        for (int round = 1; round <= rounds; round++) {
            int next = x.round(0, 0);
            for (int i = 0; round < rounds && i < (round < 4 ? 4 : 2); i++) {
                x.close(next + i);
            }
        }
        return x;
    }

    static Prioritywave ended() {
        Prioritywave x = begun(5);
        x.close(14);
        return x;
    }

    private static void tourNumbers() {
        range("34: how many are dropped", RangeTest::empty, 0, 3, ARGUMENT, (x, v) -> x.drop(v));
        range("37: how many are kept", RangeTest::empty, 1, 16, ARGUMENT, (x, v) -> x.cut(v));
        for (int surfers : new int[] {0, 1, 16}) {
            range("36: seed of " + surfers, v -> everyMinute(surfers), 0, surfers - 1, ELEMENT, (x, v) -> x.seed(v));
            range("37: kept of " + surfers, v -> everyMinute(surfers), 1, 16, ARGUMENT, (x, v) -> x.cut(v));
        }
    }

    private static void bankIndices() {
        for (int count = 0; count <= 4; count++) {
            int banks = count;
            IntFunction<Prioritywave> made = v -> {
                Prioritywave x = new Prioritywave();
                x.surfer(0);
                x.surfer(0);
                for (int i = 0; i < banks; i++) {
                    x.bank(0, 100, 0, 400);
                }
                return x;
            };
            range("5: bank of " + count, made, 0, count - 1, INDEX, (x, v) -> x.wave(v, 0));
            range("6: bank of " + count, made, 0, count - 1, INDEX, (x, v) -> x.best(v, 0, 0, 1));
            range("8: bank of " + count, made, 0, count - 1, INDEX, (x, v) -> x.heat(v, 0, 10, 3));
        }
    }

    private static IntFunction<Prioritywave> heats(int count) {
        return v -> {
            Prioritywave x = everyMinute(4);
            for (int i = 0; i < count; i++) {
                x.heat(0, 0, 10, 7);
                x.suspend(i, 0, 0);
                x.suspend(i, 1, 0);
            }
            if (v >= 0 && v < count) {
                x.ride(v, 0, 0, 0, false);
            }
            return x;
        };
    }

    private static void heatIndices() {
        for (int count : new int[] {0, 1, 2, 40}) {
            IntFunction<Prioritywave> made = heats(count);
            IntFunction<Prioritywave> still = v -> heats(count).apply(-1);
            int last = count - 1;
            String what = "heat of " + count;
            range("9: " + what, made, 0, last, INDEX, (x, v) -> x.ride(v, 1, 0, 0, false));
            range("12: " + what, made, 0, last, INDEX, (x, v) -> x.miss(v, 0, 0));
            range("13: " + what, made, 0, last, INDEX, (x, v) -> x.block(v, 0, 0));
            range("14: " + what, made, 0, last, INDEX, (x, v) -> x.suspend(v, 0, 0));
            range("15: " + what, made, 0, last, INDEX, (x, v) -> x.leave(v, 0, 0));
            range("16: " + what, still, 0, last, INDEX, (x, v) -> x.restart(v, 0));
            range("17: " + what, made, 0, last, INDEX, (x, v) -> x.close(v));
            range("18: " + what, made, 0, last, INDEX, (x, v) -> x.isOpen(v));
            range("19: " + what, made, 0, last, INDEX, (x, v) -> x.place(v, 0));
            range("20: " + what, made, 0, last, INDEX, (x, v) -> x.first(v));
            range("21: " + what, made, 0, last, INDEX, (x, v) -> x.score(v, 0, 0));
            range("22: " + what, made, 0, last, INDEX, (x, v) -> x.total(v, 0));
            range("23: " + what, made, 0, last, INDEX, (x, v) -> x.hindered(v, 0, 'p'));
            range("24: " + what, made, 0, last, INDEX, (x, v) -> x.rank(v, 0));
            range("25: " + what, made, 0, last, INDEX, (x, v) -> x.ranked(v, 1));
            range("26: " + what, made, 0, last, INDEX, (x, v) -> x.need(v, 0, 1));
            range("27: " + what, made, 0, last, INDEX, (x, v) -> x.acts(v));
            range("32: " + what, made, 0, last, INDEX, (x, v) -> x.surferAt(v, 0));
            range("41: " + what, made, 0, last, INDEX, (x, v) -> x.meanScore(v));
        }
    }

    /** Surfers who are there, but not in the heat, are refused by another exception; so two of two and four of four. */
    private static void surferIndices() {
        for (int count : new int[] {2, 3, 4}) {
            IntFunction<Prioritywave> made = v -> {
                Prioritywave x = everyMinute(count);
                x.heat(0, 0, 10, (1 << count) - 1);
                for (int surfer = 0; surfer < count; surfer++) {
                    x.ride(0, surfer, surfer, 0, false);
                }
                return x;
            };
            int last = count - 1;
            String what = "surfer of " + count;
            range("9: " + what, made, 0, last, INDEX, (x, v) -> x.ride(0, v, 9, 0, false));
            range("12: " + what, made, 0, last, INDEX, (x, v) -> x.miss(0, v, 9));
            range("13: " + what, made, 0, last, INDEX, (x, v) -> x.block(0, v, 9));
            range("14: " + what, made, 0, last, INDEX, (x, v) -> x.suspend(0, v, 9));
            range("15: " + what, made, 0, last, INDEX, (x, v) -> x.leave(0, v, 9));
            range("19: " + what, made, 0, last, INDEX, (x, v) -> x.place(0, v));
            range("21: " + what, made, 0, last, INDEX, (x, v) -> x.score(0, v, 0));
            range("22: " + what, made, 0, last, INDEX, (x, v) -> x.total(0, v));
            range("23: " + what, made, 0, last, INDEX, (x, v) -> x.hindered(0, v, 'n'));
            range("24: " + what, made, 0, last, INDEX, (x, v) -> x.rank(0, v));
            range("26: " + what, made, 0, last, INDEX, (x, v) -> x.need(0, v, 1));
        }
        for (int surfers : new int[] {0, 1, 16}) {
            IntFunction<Prioritywave> made = v -> everyMinute(surfers);
            range("35: surfer of " + surfers, made, 0, surfers - 1, INDEX, (x, v) -> x.points(v));
            range("38: surfer of " + surfers, made, 0, surfers - 1, INDEX, (x, v) -> x.isCut(v));
        }
        range("33: surfer of 12", v -> ended(), 0, 11, INDEX, (x, v) -> x.eventPoints(0, v));
        IntFunction<Prioritywave> sixteen = v -> {
            Prioritywave x = EventTest.tour(16);
            x.event(0);
            return x;
        };
        range("33: surfer of 16", sixteen, 0, 15, INDEX, (x, v) -> x.eventPoints(0, v));
    }

    private static void eventIndices() {
        for (int count = 0; count <= 4; count++) {
            int events = count;
            IntFunction<Prioritywave> made = v -> {
                Prioritywave x = EventTest.tour(12);
                for (int i = 0; i < events; i++) {
                    x.event(0);
                }
                return x;
            };
            IntFunction<Prioritywave> drawn = v -> {
                Prioritywave x = made.apply(v);
                for (int i = 0; i < events; i++) {
                    x.round(i, 0);
                }
                return x;
            };
            String what = "event of " + count;
            range("29: " + what, made, 0, count - 1, INDEX, (x, v) -> x.round(v, 0));
            range("30: " + what, made, 0, count - 1, INDEX, (x, v) -> x.rounds(v));
            range("31: " + what, drawn, 0, count - 1, INDEX, (x, v) -> x.heatOf(v, 1, 0));
            range("33: " + what, made, 0, count - 1, INDEX, (x, v) -> x.eventPoints(v, 0));
        }
    }
}
