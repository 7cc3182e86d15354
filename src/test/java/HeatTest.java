import java.util.NoSuchElementException;

/** Promises 7, 8, 10, 11, 16 to 18, 27 and 32: surfers, heats by themselves, marks, restarts and ends. */
final class HeatTest {
    private static final Class<IllegalArgumentException> ARGUMENT = IllegalArgumentException.class;
    private static final Class<IllegalStateException> STATE = IllegalStateException.class;
    private static final Class<IndexOutOfBoundsException> INDEX = IndexOutOfBoundsException.class;
    private static final Class<UnsupportedOperationException> SUPPORT = UnsupportedOperationException.class;
    private static final Class<NoSuchElementException> ELEMENT = NoSuchElementException.class;

    private HeatTest() {
    }

    static void run() {
        surfers();
        heatBounds();
        heatLimit();
        marks();
        restarts();
        restartRefusals();
        restartOrder();
        restartAgain();
        lateRestarts();
        closing();
        actsAndSurfers();
        minutesOfEachHeat();
        restartGivesAll();
    }

    /** A wave in each minute that 5 divides, a bank, five marks of 500, and so many surfers. */
    static Prioritywave withSurfers(int count) {
        Prioritywave x = new Prioritywave();
        x.swell(200, 5, 0, 0, 99999);
        x.bank(0, 100, 0, 400);
        for (int i = 0; i < 5; i++) {
            x.mark(500);
        }
        for (int i = 0; i < count; i++) {
            x.surfer(0);
        }
        return x;
    }

    private static void surfers() {
        Prioritywave x = new Prioritywave();
        Check.refuses("7: points -1", ARGUMENT, x, () -> x.surfer(-1));
        Check.refuses("7: points 100000", ARGUMENT, x, () -> x.surfer(100000));
        for (int i = 0; i < 16; i++) {
            Check.same("7: number", x.surfer(i == 0 ? 0 : 99999), i);
        }
        Check.refuses("7: a seventeenth", STATE, x, () -> x.surfer(0));
        Check.refuses("7: a wrong seventeenth", ARGUMENT, x, () -> x.surfer(-1));
        Check.same("7: the last one is there", x.points(15), 0);
        Check.refuses("7: no more", INDEX, x, () -> x.points(16));
    }

    private static void heatBounds() {
        Prioritywave x = new Prioritywave();
        Check.refuses("8: no bank goes first", INDEX, x, () -> x.heat(0, -1, 0, 0));
        x.bank(0, 100, 0, 400);
        for (int i = 0; i < 5; i++) {
            x.surfer(0);
        }
        Check.refuses("8: bank -1", INDEX, x, () -> x.heat(-1, 0, 10, 3));
        Check.refuses("8: bank 1", INDEX, x, () -> x.heat(1, 0, 10, 3));
        Check.refuses("8: first -1", ARGUMENT, x, () -> x.heat(0, -1, 10, 3));
        Check.refuses("8: first 99940", ARGUMENT, x, () -> x.heat(0, 99940, 10, 3));
        Check.refuses("8: 9 minutes", ARGUMENT, x, () -> x.heat(0, 0, 9, 3));
        Check.refuses("8: 61 minutes", ARGUMENT, x, () -> x.heat(0, 0, 61, 3));
        Check.refuses("8: nobody", ARGUMENT, x, () -> x.heat(0, 0, 10, 0));
        Check.refuses("8: one", ARGUMENT, x, () -> x.heat(0, 0, 10, 16));
        Check.refuses("8: five", ARGUMENT, x, () -> x.heat(0, 0, 10, 31));
        Check.refuses("8: one who is not there", ARGUMENT, x, () -> x.heat(0, 0, 10, 35));
        Check.refuses("8: negative", ARGUMENT, x, () -> x.heat(0, 0, 10, Integer.MIN_VALUE + 3));
        Check.refuses("8: none was made", INDEX, x, () -> x.acts(0));
        Check.same("8: the least one", x.heat(0, 0, 10, 3), 0);
        Check.same("8: the latest and longest one", x.heat(0, 99939, 60, 30), 1);
        Check.same("8: the first minute fits", x.block(1, 1, 99939), -1);
        Check.same("8: the last minute fits", x.block(1, 1, 99998), -1);
        Check.refuses("8: none behind the last one", SUPPORT, x, () -> x.block(1, 1, 99999));
    }

    private static void heatLimit() {
        Prioritywave x = withSurfers(3);
        for (int i = 0; i < 40; i++) {
            Check.same("8: number", x.heat(0, 0, 10, 5), i);
        }
        Check.refuses("8: a 41st", STATE, x, () -> x.heat(0, 0, 10, 5));
        Check.refuses("8: a wrong 41st", ARGUMENT, x, () -> x.heat(0, 0, 10, 4));
        Check.refuses("8: a 41st without a bank", INDEX, x, () -> x.heat(1, 0, 10, 5));
        Check.yes("8: the 40th is there", x.isOpen(39));
        Check.refuses("8: and no more", INDEX, x, () -> x.isOpen(40));
    }

    private static void marks() {
        Prioritywave x = new Prioritywave();
        Check.refuses("10: mark -1", ARGUMENT, x, () -> x.mark(-1));
        Check.refuses("10: mark 1001", ARGUMENT, x, () -> x.mark(1001));
        Check.same("11: nothing to wipe", x.wipe(), 0);
        for (int i = 1; i <= 30; i++) {
            Check.same("10: how many", x.mark(i % 2 == 0 ? 0 : 1000), i);
        }
        Check.refuses("10: a 31st", STATE, x, () -> x.mark(5));
        Check.refuses("10: a wrong 31st", ARGUMENT, x, () -> x.mark(1001));
        Check.same("11: thirty wiped", x.wipe(), 30);
        Check.same("11: none is left", x.wipe(), 0);
        Check.same("10: from 1 again", x.mark(7), 1);
        Check.same("11: one wiped", x.wipe(), 1);
    }

    private static void restarts() {
        Prioritywave x = withSurfers(3);
        x.heat(0, 100, 20, 7);
        Check.no("16: no other acts", x.restart(0, 100));
        Check.no("16: ten behind", x.restart(0, 110));
        Check.refuses("16: ahead of the new first minute", SUPPORT, x, () -> x.block(0, 0, 109));
        x.suspend(0, 0, 110);
        x.suspend(0, 1, 112);
        x.leave(0, 2, 113);
        Check.yes("16: other acts", x.restart(0, 113));
        Check.same("27: all acts are gone", x.acts(0), 0);
        Check.same("16: the row is gone", x.place(0, 0), -1);
        Check.same("16: who left is back", x.place(0, 2), -1);
        Check.refuses("16: all are alike", ELEMENT, x, () -> x.first(0));
        Check.same("16: as long as told", x.block(0, 0, 132), -1);
        Check.refuses("16: not longer", SUPPORT, x, () -> x.block(0, 0, 133));
        Check.same("27: since it was begun anew", x.acts(0), 1);
        Check.yes("16: sound", x.isSound());
    }

    private static void restartRefusals() {
        Prioritywave x = withSurfers(2);
        Check.refuses("16: no heat", INDEX, x, () -> x.restart(0, 0));
        x.heat(0, 100, 20, 3);
        Check.refuses("16: heat -1", INDEX, x, () -> x.restart(-1, 100));
        Check.refuses("16: heat 1", INDEX, x, () -> x.restart(1, 100));
        Check.refuses("16: ahead of the first minute", SUPPORT, x, () -> x.restart(0, 99));
        Check.refuses("16: eleven behind", SUPPORT, x, () -> x.restart(0, 111));
        Check.refuses("16: far ahead", SUPPORT, x, () -> x.restart(0, Integer.MIN_VALUE));
        Check.refuses("16: far behind", SUPPORT, x, () -> x.restart(0, Integer.MAX_VALUE));
        x.suspend(0, 0, 105);
        Check.refuses("16: ahead of the act before", SUPPORT, x, () -> x.restart(0, 104));
        Check.same("16: the row stays", x.place(0, 0), 1);
        Check.same("16: the acts stay", x.acts(0), 1);
        Check.yes("16: at the act before", x.restart(0, 105));
        x.ride(0, 0, 105, 0, false);
        Check.refuses("16: somebody rode", SUPPORT, x, () -> x.restart(0, 106));

        Prioritywave y = withSurfers(2);
        y.heat(0, 0, 10, 3);
        Check.refuses("16: behind the last minute", SUPPORT, y, () -> y.restart(0, 10));
        Check.no("16: the last minute", y.restart(0, 9));
        y.close(0);
        Check.refuses("16: closed", SUPPORT, y, () -> y.restart(0, 9));
    }

    private static void restartOrder() {
        Prioritywave x = withSurfers(2);
        x.heat(0, 0, 20, 3);
        x.ride(0, 0, 0, 0, false);
        x.leave(0, 0, 1);
        Check.refuses("16: who rode has left, but rode", SUPPORT, x, () -> x.restart(0, 1));
        Check.same("16: all stays", x.acts(0), 2);
    }

    private static void restartAgain() {
        Prioritywave x = withSurfers(2);
        x.heat(0, 0, 30, 3);
        x.restart(0, 10);
        Check.no("16: ten behind the first one as it is now", x.restart(0, 20));
        Check.refuses("16: eleven behind it", SUPPORT, x, () -> x.restart(0, 31));
        Check.same("16: rides count anew", x.ride(0, 0, 20, 0, true), 500);
        Check.same("16: the last minute", x.block(0, 1, 49), 1);
    }

    private static void lateRestarts() {
        Prioritywave x = withSurfers(2);
        x.heat(0, 99939, 60, 3);
        for (int minute = 99949; minute <= 100009; minute += 10) {
            Check.no("16: above 99999 too", x.restart(0, minute));
        }
        Check.refuses("16: no wave there", SUPPORT, x, () -> x.miss(0, 0, 100010));
        Check.refuses("16: no ride there", SUPPORT, x, () -> x.ride(0, 0, 100010, 0, false));
        Check.same("16: but other acts", x.suspend(0, 0, 100010), 1);
    }

    private static void closing() {
        Prioritywave x = withSurfers(3);
        Check.refuses("17: no heat", INDEX, x, () -> x.close(0));
        Check.refuses("18: no heat", INDEX, x, () -> x.isOpen(0));
        x.heat(0, 0, 10, 7);
        Check.refuses("17: heat 1", INDEX, x, () -> x.close(1));
        Check.refuses("17: heat -1", INDEX, x, () -> x.close(-1));
        Check.refuses("18: heat -1", INDEX, x, () -> x.isOpen(-1));
        Check.yes("18: open", x.isOpen(0));
        x.ride(0, 1, 0, 0, false);
        Check.same("17: who is first", x.close(0), 1);
        Check.no("18: closed", x.isOpen(0));
        Check.refuses("17: closed before", SUPPORT, x, () -> x.close(0));
        Check.refuses("9: closed", SUPPORT, x, () -> x.ride(0, 0, 5, 0, false));
        Check.refuses("12: closed", SUPPORT, x, () -> x.miss(0, 0, 5));
        Check.refuses("13: closed", SUPPORT, x, () -> x.block(0, 0, 5));
        Check.refuses("14: closed", SUPPORT, x, () -> x.suspend(0, 0, 5));
        Check.refuses("15: closed", SUPPORT, x, () -> x.leave(0, 0, 5));
        Check.refuses("26: closed", SUPPORT, x, () -> x.need(0, 0, 1));
        Check.same("27: none of these is an act", x.acts(0), 1);
        Check.same("22: scores stay", x.total(0, 1), 500);
        Check.same("19: places stay", x.place(0, 1), 0);

        Prioritywave y = withSurfers(3);
        y.heat(0, 0, 10, 6);
        Check.same("17: nobody rode, the first one told", y.close(0), 1);
    }

    private static void actsAndSurfers() {
        Prioritywave x = withSurfers(6);
        Check.refuses("27: no heat", INDEX, x, () -> x.acts(0));
        Check.refuses("32: no heat", INDEX, x, () -> x.surferAt(0, 0));
        x.heat(0, 0, 10, 42);
        Check.refuses("27: heat -1", INDEX, x, () -> x.acts(-1));
        Check.refuses("27: heat 1", INDEX, x, () -> x.acts(1));
        Check.refuses("32: heat 1", INDEX, x, () -> x.surferAt(1, 9));
        Check.same("32: by rising numbers", x.surferAt(0, 0), 1);
        Check.same("32: the second one", x.surferAt(0, 1), 3);
        Check.same("32: the last one", x.surferAt(0, 2), 5);
        Check.refuses("32: index 3", ELEMENT, x, () -> x.surferAt(0, 3));
        Check.refuses("32: index -1", ELEMENT, x, () -> x.surferAt(0, -1));
        Check.same("27: none", x.acts(0), 0);
        x.ride(0, 1, 0, 0, false);
        x.miss(0, 3, 0);
        x.block(0, 3, 0);
        x.suspend(0, 5, 1);
        x.leave(0, 1, 2);
        Check.same("27: each kind of act", x.acts(0), 5);
        Check.refuses("12: no wave", SUPPORT, x, () -> x.miss(0, 3, 3));
        Check.same("27: what is refused is none", x.acts(0), 5);
        Check.same("12: nor does it move the minute", x.block(0, 3, 2), 1);
    }

    /** "that of the act before in this heat": not of another one. */
    private static void minutesOfEachHeat() {
        Prioritywave x = RangeTest.everyMinute(3);
        x.heat(0, 0, 60, 7);
        x.heat(0, 0, 60, 7);
        x.block(0, 0, 50);
        Check.same("13: ahead of the act in another heat", x.block(1, 0, 3), -1);
        Check.refuses("13: ahead of the act before", SUPPORT, x, () -> x.block(1, 0, 2));
        Check.refuses("13: ahead of the act before, in the first heat", SUPPORT, x, () -> x.block(0, 0, 49));
        Check.yes("16: at that of the act before", x.restart(1, 3));
        Check.refuses("16: too late in the first heat", SUPPORT, x, () -> x.restart(0, 50));
    }

    /** "all acts are gone, and what came of them, too, and it lasts as long as it was told". */
    private static void restartGivesAll() {
        for (int minutes : new int[] {10, 11, 60}) {
            for (int shift = 0; shift <= Math.min(10, minutes - 1); shift++) {
                Prioritywave x = RangeTest.everyMinute(3);
                x.heat(0, 200, minutes, 7);
                x.suspend(0, 2, 200);
                x.suspend(0, 1, 200);
                x.miss(0, 0, 200);
                x.leave(0, 1, 200);
                int first = 200 + shift;
                int last = first + minutes - 1;
                Check.yes("16: it had acts", x.restart(0, first));
                RightTest.row("16: nobody is in the row", x, 3, "nnn");
                Check.same("27: no acts", x.acts(0), 0);
                Check.yes("18: open", x.isOpen(0));
                Check.same("24: ranked as told", x.rank(0, 2), 3);
                Check.same("8: the same surfers", x.surferAt(0, 1), 1);
                Check.refuses("16: ahead of the new first minute", SUPPORT, x, () -> x.ride(0, 0, first - 1, 0, true));
                Check.same("16: the new first minute", x.ride(0, 0, first, 0, true), 500);
                Check.same("16: on the same wave", x.ride(0, 1, first, 0, true), 500);
                Check.same("23: alike in the new row", x.hindered(0, 1, 'n'), 1);
                Check.same("16: the new last minute", x.ride(0, 1, last, 0, true), 500);
                Check.refuses("16: behind it", SUPPORT, x, () -> x.ride(0, 2, last + 1, 0, true));
                Check.yes("42: sound", x.isSound());
            }
        }
    }
}
