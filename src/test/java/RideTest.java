import java.util.NoSuchElementException;

/** Promises 9, 21 and 23: rides, their scores, and who hindered whom. */
final class RideTest {
    private static final Class<IllegalArgumentException> ARGUMENT = IllegalArgumentException.class;
    private static final Class<IndexOutOfBoundsException> INDEX = IndexOutOfBoundsException.class;
    private static final Class<UnsupportedOperationException> SUPPORT = UnsupportedOperationException.class;
    private static final Class<NoSuchElementException> ELEMENT = NoSuchElementException.class;

    private RideTest() {
    }

    static void run() {
        scoresOfMarks();
        rideRefusals();
        refusalOrder();
        oneWave();
        bothAlike();
        behindInTheRow();
        inTheRowOrNot();
        rowAheadOfBoth();
        afterLeaving();
        secondInterference();
        secondOfFirstRider();
        scores();
        hinderedRefusals();
        everyOrderOfMarks();
        everyThird();
        actsBetweenRides();
        notTold();
    }

    private static void type(Prioritywave x, int... marks) {
        x.wipe();
        for (int mark : marks) {
            x.mark(mark);
        }
    }

    private static void scoresOfMarks() {
        Prioritywave x = HeatTest.withSurfers(2);
        x.heat(0, 0, 60, 3);
        type(x, 0, 1000, 10, 20, 30, 31);
        Check.same("9: without the greatest and the least", x.ride(0, 0, 0, 0, false), 20);
        Check.same("9: from the second mark on", x.ride(0, 0, 5, 1, false), 27);
        type(x, 5, 5, 5, 5, 4);
        Check.same("9: one of several that are greatest", x.ride(0, 0, 10, 0, false), 5);
        type(x, 0, 0, 1, 1, 1);
        Check.same("9: 2 plus 1 by 3", x.ride(0, 0, 15, 0, false), 1);
        type(x, 0, 0, 0, 1, 1);
        Check.same("9: 1 plus 1 by 3, cut", x.ride(0, 0, 20, 0, false), 0);
        type(x, 1000, 1000, 1000, 1000, 1000);
        Check.same("9: the greatest score", x.ride(0, 0, 25, 0, false), 1000);
        type(x, 0, 0, 0, 0, 0);
        Check.same("9: the least score", x.ride(0, 0, 30, 0, false), 0);
        type(x, 900, 300, 700, 100, 500);
        Check.same("9: in any order", x.ride(0, 0, 35, 0, false), 500);
        Check.same("11: marks stay typed", x.wipe(), 5);
    }

    private static void rideRefusals() {
        Prioritywave x = HeatTest.withSurfers(4);
        x.heat(0, 10, 10, 7);
        Check.refuses("9: ahead of the first minute", SUPPORT, x, () -> x.ride(0, 0, 5, 0, false));
        Check.refuses("9: behind the last minute", SUPPORT, x, () -> x.ride(0, 0, 20, 0, false));
        Check.refuses("9: no wave", SUPPORT, x, () -> x.ride(0, 0, 11, 0, false));
        Check.refuses("9: not in the heat", SUPPORT, x, () -> x.ride(0, 3, 10, 0, false));
        x.block(0, 0, 11);
        Check.refuses("9: ahead of the act before", SUPPORT, x, () -> x.ride(0, 0, 10, 0, false));
        x.leave(0, 1, 12);
        Check.refuses("9: has left", SUPPORT, x, () -> x.ride(0, 1, 15, 0, false));
        Check.refuses("9: no mark behind the fifth", ARGUMENT, x, () -> x.ride(0, 0, 15, 1, false));
        Check.refuses("9: place -1", ARGUMENT, x, () -> x.ride(0, 0, 15, -1, false));
        Check.refuses("9: a far place", ARGUMENT, x, () -> x.ride(0, 0, 15, Integer.MAX_VALUE, false));
        Check.refuses("9: a far place ahead", ARGUMENT, x, () -> x.ride(0, 0, 15, Integer.MIN_VALUE, false));
        Check.same("27: nothing changed", x.acts(0), 2);
        Check.refuses("21: nothing changed", ELEMENT, x, () -> x.score(0, 0, 0));
        Check.same("9: a ride", x.ride(0, 0, 15, 0, false), 500);
        x.mark(800);
        Check.same("9: six are typed", x.ride(0, 2, 15, 1, false), 500);
        x.wipe();
        Check.refuses("9: none is typed", ARGUMENT, x, () -> x.ride(0, 0, 16, 0, false));
        for (int i = 0; i < 4; i++) {
            x.mark(1);
        }
        Check.refuses("9: four are typed", ARGUMENT, x, () -> x.ride(0, 0, 16, 0, false));
    }

    private static void refusalOrder() {
        Prioritywave x = HeatTest.withSurfers(2);
        Check.refuses("9: no heat goes first", INDEX, x, () -> x.ride(0, 0, 0, 9, false));
        x.heat(0, 0, 10, 3);
        Check.refuses("9: no surfer goes first", INDEX, x, () -> x.ride(0, 2, 0, 9, false));
        Check.refuses("9: no surfer -1", INDEX, x, () -> x.ride(0, -1, 0, 0, false));
        Check.refuses("9: no heat -1", INDEX, x, () -> x.ride(-1, 0, 0, 0, false));
        x.close(0);
        Check.refuses("9: marks go ahead of a closed heat", ARGUMENT, x, () -> x.ride(0, 0, 0, 9, false));
        Check.refuses("9: closed", SUPPORT, x, () -> x.ride(0, 0, 0, 0, false));
    }

    private static void oneWave() {
        Prioritywave x = HeatTest.withSurfers(3);
        x.heat(0, 0, 60, 7);
        x.ride(0, 0, 0, 0, true);
        Check.refuses("9: this one rode it", SUPPORT, x, () -> x.ride(0, 0, 0, 0, false));
        Check.same("23: of no meaning for the first ride", x.hindered(0, 0, 'n'), 0);
        x.ride(0, 1, 0, 0, false);
        Check.refuses("9: two rode it", SUPPORT, x, () -> x.ride(0, 2, 0, 0, false));
        Check.refuses("9: two rode it, this one too", SUPPORT, x, () -> x.ride(0, 1, 0, 0, false));
        Check.same("23: not told, not hindered", x.hindered(0, 1, 'n') + x.hindered(0, 1, 'p'), 0);
        Check.same("9: the next wave", x.ride(0, 2, 5, 0, true), 500);
        Check.same("23: alone on it", x.hindered(0, 2, 'p') + x.hindered(0, 2, 'n'), 0);
        Check.same("27: three rides", x.acts(0), 3);

        Prioritywave y = HeatTest.withSurfers(2);
        y.heat(0, 0, 60, 3);
        y.heat(0, 0, 60, 3);
        y.ride(0, 0, 0, 0, false);
        Check.same("9: another heat is another wave", y.ride(1, 0, 0, 0, false), 500);
    }

    private static void bothAlike() {
        Prioritywave x = HeatTest.withSurfers(4);
        x.heat(0, 0, 60, 15);
        x.ride(0, 2, 0, 0, false);
        x.ride(0, 1, 0, 0, true);
        Check.same("23: who rode behind, by n", x.hindered(0, 1, 'n'), 1);
        Check.same("23: not by p", x.hindered(0, 1, 'p'), 0);
        Check.same("23: the other one not", x.hindered(0, 2, 'n') + x.hindered(0, 2, 'p'), 0);
        RightTest.row("9: both go to the end", x, 4, "n10n");
    }

    private static void behindInTheRow() {
        Prioritywave x = HeatTest.withSurfers(3);
        x.heat(0, 0, 60, 7);
        x.suspend(0, 1, 0);
        x.suspend(0, 2, 0);
        RightTest.row("14: the row", x, 3, "012");
        x.ride(0, 2, 0, 0, false);
        x.ride(0, 1, 0, 0, true);
        Check.same("23: the first rider was behind", x.hindered(0, 2, 'p'), 1);
        Check.same("23: who rode behind was ahead", x.hindered(0, 1, 'p') + x.hindered(0, 1, 'n'), 0);
        RightTest.row("9: both go to the end", x, 3, "021");
        x.ride(0, 0, 5, 0, false);
        x.ride(0, 1, 5, 0, true);
        Check.same("23: who rode behind was behind", x.hindered(0, 1, 'p'), 1);
    }

    private static void inTheRowOrNot() {
        Prioritywave x = HeatTest.withSurfers(4);
        x.heat(0, 0, 60, 15);
        x.suspend(0, 3, 0);
        x.ride(0, 3, 0, 0, false);
        x.ride(0, 0, 0, 0, true);
        Check.same("23: the first rider was in it, the other one not", x.hindered(0, 3, 'p'), 1);

        Prioritywave y = HeatTest.withSurfers(4);
        y.heat(0, 0, 60, 15);
        y.suspend(0, 3, 0);
        y.ride(0, 0, 0, 0, false);
        y.ride(0, 3, 0, 0, true);
        Check.same("23: who rode behind was in it, the other one not", y.hindered(0, 3, 'p'), 1);
        Check.same("23: the other one not", y.hindered(0, 0, 'p') + y.hindered(0, 0, 'n'), 0);
    }

    private static void rowAheadOfBoth() {
        Prioritywave x = HeatTest.withSurfers(3);
        x.heat(0, 0, 60, 7);
        x.ride(0, 0, 0, 0, false);
        x.suspend(0, 1, 0);
        RightTest.row("14: between two rides", x, 3, "120");
        x.ride(0, 1, 0, 0, true);
        Check.same("23: the row as it was ahead of both", x.hindered(0, 1, 'n'), 1);
        Check.same("23: not as it was between them", x.hindered(0, 1, 'p') + x.hindered(0, 0, 'p'), 0);
    }

    private static void afterLeaving() {
        Prioritywave x = HeatTest.withSurfers(3);
        x.heat(0, 0, 60, 7);
        x.suspend(0, 0, 0);
        x.suspend(0, 1, 0);
        x.ride(0, 1, 0, 0, false);
        x.leave(0, 1, 0);
        x.ride(0, 0, 0, 0, true);
        Check.same("23: one who has left", x.hindered(0, 1, 'p'), 1);
        RightTest.row("19: is in no row", x, 3, "1x0");
        Check.same("15: two were left", x.leave(0, 0, 0), 1);
        Check.yes("42: sound", x.isSound());
    }

    private static void secondInterference() {
        Prioritywave x = HeatTest.withSurfers(4);
        x.heat(0, 0, 60, 15);
        x.ride(0, 0, 0, 0, false);
        x.ride(0, 1, 0, 0, true);
        Check.same("23: one by n", x.hindered(0, 1, 'n'), 1);
        RightTest.row("9: one does not send out", x, 4, "01nn");
        x.ride(0, 2, 5, 0, false);
        RightTest.row("9: the fourth one is put ahead", x, 4, "1230");
        Check.same("9: the ride that hindered counts", x.ride(0, 1, 10, 0, false), 500);
        x.ride(0, 3, 10, 0, true);
        Check.same("23: one by p", x.hindered(0, 1, 'p'), 1);
        RightTest.row("9: the second one sends out", x, 4, "0x12");
        Check.same("19: out", x.place(0, 1), -2);
        Check.refuses("9: out", SUPPORT, x, () -> x.ride(0, 1, 15, 0, false));
        Check.refuses("12: out", SUPPORT, x, () -> x.miss(0, 1, 15));
        Check.refuses("13: out", SUPPORT, x, () -> x.block(0, 1, 15));
        Check.refuses("14: out", SUPPORT, x, () -> x.suspend(0, 1, 15));
        Check.refuses("15: out", SUPPORT, x, () -> x.leave(0, 1, 15));
        Check.refuses("26: out", SUPPORT, x, () -> x.need(0, 1, 4));
        Check.same("21: scores stay", x.score(0, 1, 1), 500);
        Check.same("15: one who is out is not left", x.leave(0, 0, 15), 2);
        Check.yes("42: sound", x.isSound());
    }

    private static void secondOfFirstRider() {
        Prioritywave x = HeatTest.withSurfers(3);
        x.heat(0, 0, 60, 7);
        x.ride(0, 0, 0, 0, false);
        x.ride(0, 1, 0, 0, true);
        x.ride(0, 1, 5, 0, false);
        x.ride(0, 2, 5, 0, true);
        Check.same("23: the first rider was behind", x.hindered(0, 1, 'p'), 1);
        RightTest.row("9: and is out", x, 3, "0x1");
        Check.same("20: the row goes on", x.first(0), 0);

        Prioritywave y = HeatTest.withSurfers(4);
        y.heat(0, 0, 60, 15);
        y.ride(0, 0, 0, 0, false);
        y.ride(0, 1, 0, 0, true);
        y.ride(0, 0, 5, 0, false);
        y.ride(0, 1, 5, 0, true);
        RightTest.row("9: out, and two are not in the row", y, 4, "0xnn");
        Check.refuses("20: these are alike", ELEMENT, y, () -> y.first(0));
        Check.same("23: one by each kind", y.hindered(0, 1, 'p'), 1);
        Check.same("14: the row goes on", y.suspend(0, 2, 5), 2);
        RightTest.row("14: the last one is put ahead", y, 4, "1x20");
    }

    private static void scores() {
        Prioritywave x = HeatTest.withSurfers(3);
        Check.refuses("21: no heat", INDEX, x, () -> x.score(0, 0, 0));
        x.heat(0, 0, 60, 3);
        Check.refuses("21: no score", ELEMENT, x, () -> x.score(0, 0, 0));
        int[] marks = {300, 700, 100, 700, 500};
        for (int i = 0; i < marks.length; i++) {
            type(x, marks[i], marks[i], marks[i], marks[i], marks[i]);
            x.ride(0, 0, 5 * i, 0, false);
        }
        int[] due = {700, 700, 500, 300, 100};
        for (int i = 0; i < due.length; i++) {
            Check.same("21: the greatest one first", x.score(0, 0, i), due[i]);
        }
        Check.refuses("21: no sixth one", ELEMENT, x, () -> x.score(0, 0, 5));
        Check.refuses("21: index -1", ELEMENT, x, () -> x.score(0, 0, -1));
        Check.refuses("21: index far away", ELEMENT, x, () -> x.score(0, 0, Integer.MAX_VALUE));
        Check.refuses("21: the other one has none", ELEMENT, x, () -> x.score(0, 1, 0));
        Check.refuses("21: not of the heat", ELEMENT, x, () -> x.score(0, 2, 0));
        Check.refuses("21: no surfer 3", INDEX, x, () -> x.score(0, 3, 0));
        Check.refuses("21: no heat 1", INDEX, x, () -> x.score(1, 0, 0));
    }

    private static void hinderedRefusals() {
        Prioritywave x = HeatTest.withSurfers(3);
        Check.refuses("23: no heat goes first", INDEX, x, () -> x.hindered(0, 0, 'x'));
        x.heat(0, 0, 60, 3);
        Check.refuses("23: no surfer goes first", INDEX, x, () -> x.hindered(0, 3, 'x'));
        Check.refuses("23: no surfer -1", INDEX, x, () -> x.hindered(0, -1, 'p'));
        Check.refuses("23: no kind x, of one who is not of the heat", ARGUMENT, x, () -> x.hindered(0, 2, 'x'));
        Check.refuses("23: no kind P", ARGUMENT, x, () -> x.hindered(0, 0, 'P'));
        Check.refuses("23: not of the heat", ELEMENT, x, () -> x.hindered(0, 2, 'p'));
        Check.same("23: none by p", x.hindered(0, 0, 'p'), 0);
        Check.same("23: none by n", x.hindered(0, 0, 'n'), 0);
    }

    /** "without the greatest and the least one": wherever they stand among the five. */
    private static void everyOrderOfMarks() {
        int[] marks = {3, 100, 350, 800, 999};
        for (int order = 0; order < 120; order++) {
            java.util.List<Integer> rest = new java.util.ArrayList<>();
            for (int mark : marks) {
                rest.add(mark);
            }
            Prioritywave x = RangeTest.everyMinute(2);
            x.heat(0, 0, 10, 3);
            x.wipe();
            int digits = order;
            for (int left = 5; left >= 1; left--) {
                x.mark(rest.remove(digits % left));
                digits /= left;
            }
            Check.same("9: (100 + 350 + 800 + 1) / 3 in the order " + order, x.ride(0, 0, 0, 0, false), 417);
        }
    }

    /** "the sum of three plus 1, divided by 3, cut": each rest of the sum, at both ends. */
    private static void everyThird() {
        int[][] due = {{0, 0, 0, 0}, {0, 0, 1, 0}, {0, 1, 1, 1}, {1, 1, 1, 1}, {1, 1, 2, 1}, {1, 2, 2, 2},
            {998, 999, 999, 999}, {999, 999, 999, 999}, {999, 999, 1000, 999}, {999, 1000, 1000, 1000},
            {1000, 1000, 1000, 1000}, {0, 500, 1000, 500}};
        for (int[] one : due) {
            Prioritywave x = RangeTest.everyMinute(2);
            x.heat(0, 0, 10, 3);
            type(x, one[0], 0, one[1], 1000, one[2]);
            Check.same("9: " + one[0] + ", " + one[1] + ", " + one[2], x.ride(0, 0, 0, 0, false), one[3]);
        }
    }

    /** "as the row was ahead of both rides": whatever is told between them. */
    private static void actsBetweenRides() {
        for (int between = 0; between < 4; between++) {
            Prioritywave x = RangeTest.everyMinute(3);
            x.heat(0, 0, 60, 7);
            x.suspend(0, 1, 0);
            x.suspend(0, 2, 0);
            RightTest.row("14: the row", x, 3, "012");
            x.ride(0, 1, 0, 0, false);
            RightTest.row("9: the row behind the first ride", x, 3, "021");
            if (between == 1) {
                x.miss(0, 0, 0);
            } else if (between == 2) {
                x.block(0, 0, 0);
            } else if (between == 3) {
                x.suspend(0, 0, 0);
            }
            RightTest.row("12: the row between", x, 3, between == 0 ? "021" : "210");
            x.ride(0, 0, 0, 0, true);
            Check.same("23: who was behind ahead of both", x.hindered(0, 1, 'p'), 1);
            Check.same("23: not who was ahead", x.hindered(0, 0, 'p') + x.hindered(0, 0, 'n'), 0);
            RightTest.row("9: to the end", x, 3, "210");
            Check.yes("42: sound", x.isSound());
        }
    }

    /** "if it is told that one hindered the other one": the second ride tells it, the first one has no meaning. */
    private static void notTold() {
        for (int told = 0; told < 4; told++) {
            Prioritywave x = RangeTest.everyMinute(3);
            x.heat(0, 0, 60, 7);
            x.ride(0, 0, 0, 0, told % 2 == 1);
            x.ride(0, 1, 0, 0, told / 2 == 1);
            Check.same("23: told " + told, x.hindered(0, 1, 'n'), told / 2);
            Check.same("23: the first rider", x.hindered(0, 0, 'n') + x.hindered(0, 0, 'p'), 0);
        }
        Prioritywave x = RangeTest.everyMinute(3);
        x.heat(0, 0, 60, 7);
        x.ride(0, 0, 0, 0, true);
        x.ride(0, 1, 1, 0, true);
        x.ride(0, 2, 2, 0, true);
        for (int surfer = 0; surfer < 3; surfer++) {
            Check.same("23: alone on each wave", x.hindered(0, surfer, 'p') + x.hindered(0, surfer, 'n'), 0);
        }
    }
}
