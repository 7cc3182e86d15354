import java.util.NoSuchElementException;

/** "If several exceptions apply, the one that is documented first is thrown": each two of each call, and all. */
final class OrderTest {
    private static final Class<IllegalArgumentException> ARGUMENT = IllegalArgumentException.class;
    private static final Class<IllegalStateException> STATE = IllegalStateException.class;
    private static final Class<IndexOutOfBoundsException> INDEX = IndexOutOfBoundsException.class;
    private static final Class<UnsupportedOperationException> SUPPORT = UnsupportedOperationException.class;
    private static final Class<NoSuchElementException> ELEMENT = NoSuchElementException.class;

    private OrderTest() {
    }

    static void run() {
        argumentsAheadOfLimits();
        seas();
        heats();
        rides();
        ridesOfAnyState();
        acts();
        places();
        scores();
        hindrances();
        ranks();
        needs();
        events();
        rounds();
        fullRounds();
        heatsOfEvents();
        eventPoints();
    }

    private static void argumentsAheadOfLimits() {
        Prioritywave x = new Prioritywave();
        for (int i = 0; i < 30; i++) {
            x.mark(0);
        }
        for (int i = 0; i < 16; i++) {
            x.surfer(0);
        }
        for (int i = 0; i < 6; i++) {
            x.swell(50, 5, 0, 0, 0);
        }
        for (int i = 0; i < 4; i++) {
            x.bank(0, 10, 0, 0);
        }
        Check.refuses("2: out of range ahead of too many", ARGUMENT, x, () -> x.swell(49, 5, 0, 0, 0));
        Check.refuses("2: a last minute too early ahead of too many", ARGUMENT, x, () -> x.swell(50, 5, 0, 1, 0));
        Check.refuses("2: too many alone", STATE, x, () -> x.swell(50, 5, 0, 0, 0));
        Check.refuses("3: out of range ahead of too many", ARGUMENT, x, () -> x.bank(360, 10, 0, 0));
        Check.refuses("3: a least tide too high ahead of too many", ARGUMENT, x, () -> x.bank(0, 10, 1, 0));
        Check.refuses("3: too many alone", STATE, x, () -> x.bank(0, 10, 0, 0));
        Check.refuses("7: out of range ahead of too many", ARGUMENT, x, () -> x.surfer(100000));
        Check.refuses("7: too many alone", STATE, x, () -> x.surfer(99999));
        Check.refuses("10: out of range ahead of too many", ARGUMENT, x, () -> x.mark(1001));
        Check.refuses("10: too many alone", STATE, x, () -> x.mark(1000));
    }

    private static void seas() {
        Prioritywave x = RangeTest.everyMinute(0);
        Check.refuses("5: no bank ahead of no minute", INDEX, x, () -> x.wave(1, 100000));
        Check.refuses("5: no minute alone", ARGUMENT, x, () -> x.wave(0, 100000));
        Check.refuses("6: no bank ahead of out of range", INDEX, x, () -> x.best(-1, -1, 0, 1));
        Check.refuses("6: no bank ahead of too early", INDEX, x, () -> x.best(1, 5, 4, 1));
        Check.refuses("6: no bank ahead of too far", INDEX, x, () -> x.best(1, 0, 2001, 1));
        Check.refuses("6: no bank ahead of too late", INDEX, x, () -> x.best(1, 99999, 99999, 2));
        Check.refuses("6: no bank ahead of no minutes", INDEX, x, () -> x.best(1, 0, 0, 0));
        Check.refuses("6: out of range alone", ARGUMENT, x, () -> x.best(0, -1, 0, 1));
        Check.refuses("6: too early alone", ARGUMENT, x, () -> x.best(0, 5, 4, 1));
        Check.refuses("6: too far alone", ARGUMENT, x, () -> x.best(0, 0, 2001, 1));
        Check.refuses("6: too late alone", ARGUMENT, x, () -> x.best(0, 99999, 99999, 2));
        Check.refuses("6: no minutes alone", ARGUMENT, x, () -> x.best(0, 0, 0, 0));
    }

    private static void heats() {
        Prioritywave x = RangeTest.everyMinute(5);
        Check.refuses("8: no bank ahead of out of range", INDEX, x, () -> x.heat(1, -1, 10, 3));
        Check.refuses("8: no bank ahead of too short", INDEX, x, () -> x.heat(1, 0, 9, 3));
        Check.refuses("8: no bank ahead of too few", INDEX, x, () -> x.heat(1, 0, 10, 1));
        Check.refuses("8: no bank ahead of too many in it", INDEX, x, () -> x.heat(1, 0, 10, 31));
        for (int i = 0; i < 40; i++) {
            x.heat(0, 0, 10, 3);
        }
        Check.refuses("8: no bank ahead of too many", INDEX, x, () -> x.heat(1, 0, 10, 3));
        Check.refuses("8: no bank ahead of all", INDEX, x, () -> x.heat(1, 0, 9, 3));
        Check.refuses("8: out of range ahead of too many", ARGUMENT, x, () -> x.heat(0, 99940, 10, 3));
        Check.refuses("8: too long ahead of too many", ARGUMENT, x, () -> x.heat(0, 0, 61, 3));
        Check.refuses("8: nobody ahead of too many", ARGUMENT, x, () -> x.heat(0, 0, 10, 0));
        Check.refuses("8: five ahead of too many", ARGUMENT, x, () -> x.heat(0, 0, 10, 31));
        Check.refuses("8: too many alone", STATE, x, () -> x.heat(0, 0, 10, 3));
    }

    private static void rides() {
        Prioritywave x = RangeTest.everyMinute(4);
        Check.refuses("9: no heat ahead of no marks", INDEX, x, () -> x.ride(0, 0, 0, 3, false));
        Check.refuses("9: no heat, no surfer, no marks", INDEX, x, () -> x.ride(0, 4, 0, 3, false));
        x.heat(0, 0, 10, 7);
        Check.refuses("9: no heat ahead of no minute", INDEX, x, () -> x.ride(1, 0, 10, 0, false));
        Check.refuses("9: no surfer ahead of no marks", INDEX, x, () -> x.ride(0, 4, 0, 3, false));
        Check.refuses("9: no surfer ahead of no minute", INDEX, x, () -> x.ride(0, 4, 10, 0, false));
        Check.refuses("9: no surfer ahead of both", INDEX, x, () -> x.ride(0, -1, -1, -1, false));
        Check.refuses("9: no marks ahead of no minute", ARGUMENT, x, () -> x.ride(0, 0, 10, 3, false));
        Check.refuses("9: no marks ahead of one who is not in it", ARGUMENT, x, () -> x.ride(0, 3, 0, 3, false));
        x.ride(0, 0, 5, 0, false);
        Check.refuses("9: no marks ahead of an act ahead", ARGUMENT, x, () -> x.ride(0, 1, 4, 3, false));
        Check.refuses("9: no marks ahead of a wave ridden", ARGUMENT, x, () -> x.ride(0, 0, 5, 3, false));
        x.ride(0, 1, 5, 0, true);
        Check.refuses("9: no marks ahead of a wave that two rode", ARGUMENT, x, () -> x.ride(0, 2, 5, 3, false));
        x.leave(0, 2, 5);
        Check.refuses("9: no marks ahead of one who has left", ARGUMENT, x, () -> x.ride(0, 2, 6, 3, false));
        x.ride(0, 0, 6, 0, false);
        x.ride(0, 1, 6, 0, true);
        Check.same("19: out", x.place(0, 1), -2);
        Check.refuses("9: no marks ahead of one who is out", ARGUMENT, x, () -> x.ride(0, 1, 7, 3, false));
        x.close(0);
        Check.refuses("9: no surfer ahead of a closed heat", INDEX, x, () -> x.ride(0, 4, 7, 0, false));
        Check.refuses("9: no marks ahead of a closed heat", ARGUMENT, x, () -> x.ride(0, 0, 7, 3, false));
        Check.refuses("9: a closed heat alone", SUPPORT, x, () -> x.ride(0, 0, 7, 0, false));
    }

    private static void ridesOfAnyState() {
        Prioritywave x = new Prioritywave();
        x.bank(0, 100, 0, 400);
        x.surfer(0);
        x.surfer(0);
        x.heat(0, 0, 10, 3);
        Check.refuses("9: no marks ahead of no wave", ARGUMENT, x, () -> x.ride(0, 0, 0, 0, false));
        for (int i = 0; i < 5; i++) {
            x.mark(1);
        }
        Check.refuses("9: no wave alone", SUPPORT, x, () -> x.ride(0, 0, 0, 0, false));
    }

    private static void acts() {
        Prioritywave x = RangeTest.tenMinutes(0);
        Check.refuses("12: no heat ahead of no minute", INDEX, x, () -> x.miss(1, 0, 99));
        Check.refuses("12: no surfer ahead of no minute", INDEX, x, () -> x.miss(0, 4, 99));
        Check.refuses("13: no heat ahead of no minute", INDEX, x, () -> x.block(-1, 0, 110));
        Check.refuses("13: no surfer ahead of no minute", INDEX, x, () -> x.block(0, -1, 110));
        Check.refuses("14: no heat ahead of no minute", INDEX, x, () -> x.suspend(1, 0, 110));
        Check.refuses("14: no surfer ahead of no minute", INDEX, x, () -> x.suspend(0, 4, 110));
        Check.refuses("15: no heat ahead of no minute", INDEX, x, () -> x.leave(1, 0, 110));
        Check.refuses("15: no surfer ahead of no minute", INDEX, x, () -> x.leave(0, 4, 110));
        Check.refuses("16: no heat ahead of no minute", INDEX, x, () -> x.restart(1, 110));
        x.close(0);
        Check.refuses("12: no surfer ahead of a closed heat", INDEX, x, () -> x.miss(0, 4, 100));
        Check.refuses("13: no surfer ahead of a closed heat", INDEX, x, () -> x.block(0, 4, 100));
        Check.refuses("14: no surfer ahead of a closed heat", INDEX, x, () -> x.suspend(0, 4, 100));
        Check.refuses("15: no surfer ahead of a closed heat", INDEX, x, () -> x.leave(0, 4, 100));
    }

    private static void places() {
        Prioritywave x = RangeTest.tenMinutes(0);
        Check.refuses("19: no heat ahead of one who is not of it", INDEX, x, () -> x.place(1, 3));
        Check.refuses("19: no surfer, who is not of the heat", INDEX, x, () -> x.place(0, 4));
        Check.refuses("19: not of the heat alone", ELEMENT, x, () -> x.place(0, 3));
        Check.refuses("20: no heat ahead of nobody", INDEX, x, () -> x.first(1));
        Check.refuses("20: nobody alone", ELEMENT, x, () -> x.first(0));
        Check.refuses("32: no heat ahead of none", INDEX, x, () -> x.surferAt(1, 3));
        Check.refuses("32: none alone", ELEMENT, x, () -> x.surferAt(0, 3));
        Check.refuses("41: no heat ahead of no scores", INDEX, x, () -> x.meanScore(1));
        Check.refuses("41: no scores alone", ArithmeticException.class, x, () -> x.meanScore(0));
    }

    private static void scores() {
        Prioritywave x = RangeTest.tenMinutes(0);
        Check.refuses("21: no heat ahead of no score", INDEX, x, () -> x.score(1, 0, 0));
        Check.refuses("21: no surfer ahead of no score", INDEX, x, () -> x.score(0, 4, 0));
        Check.refuses("21: no surfer ahead of a wrong index", INDEX, x, () -> x.score(0, -1, -1));
        Check.refuses("21: not of the heat alone", ELEMENT, x, () -> x.score(0, 3, 0));
        Check.refuses("22: no heat ahead of one who is not of it", INDEX, x, () -> x.total(1, 3));
        Check.refuses("22: no surfer, who is not of the heat", INDEX, x, () -> x.total(0, 4));
        Check.refuses("22: not of the heat alone", ELEMENT, x, () -> x.total(0, 3));
    }

    private static void hindrances() {
        Prioritywave x = RangeTest.tenMinutes(0);
        Check.refuses("23: no heat ahead of no kind", INDEX, x, () -> x.hindered(1, 0, 'x'));
        Check.refuses("23: no surfer ahead of no kind", INDEX, x, () -> x.hindered(0, 4, 'x'));
        Check.refuses("23: no surfer, who is not of the heat", INDEX, x, () -> x.hindered(0, 4, 'p'));
        Check.refuses("23: no kind ahead of not of the heat", ARGUMENT, x, () -> x.hindered(0, 3, 'x'));
        Check.refuses("23: no kind alone", ARGUMENT, x, () -> x.hindered(0, 0, 'x'));
        Check.refuses("23: not of the heat alone", ELEMENT, x, () -> x.hindered(0, 3, 'p'));
    }

    private static void ranks() {
        Prioritywave x = RangeTest.tenMinutes(0);
        Check.refuses("24: no heat ahead of one who is not of it", INDEX, x, () -> x.rank(1, 3));
        Check.refuses("24: no surfer, who is not of the heat", INDEX, x, () -> x.rank(0, 4));
        Check.refuses("24: not of the heat alone", ELEMENT, x, () -> x.rank(0, 3));
        Check.refuses("25: no heat ahead of no rank", INDEX, x, () -> x.ranked(1, 0));
        Check.refuses("25: no rank alone", ELEMENT, x, () -> x.ranked(0, 0));
    }

    private static void needs() {
        Prioritywave x = RangeTest.tenMinutes(0);
        Check.refuses("26: no heat ahead of no score", INDEX, x, () -> x.need(1, 0, 0));
        Check.refuses("26: no surfer ahead of no score", INDEX, x, () -> x.need(0, 4, 0));
        Check.refuses("26: not in it ahead of no score", SUPPORT, x, () -> x.need(0, 3, 0));
        Check.refuses("26: not in it alone", SUPPORT, x, () -> x.need(0, 3, 1));
        Check.refuses("26: no score alone", ELEMENT, x, () -> x.need(0, 0, 0));
        x.leave(0, 1, 100);
        Check.refuses("26: has left ahead of no score", SUPPORT, x, () -> x.need(0, 1, 0));
        x.ride(0, 0, 101, 0, false);
        x.ride(0, 2, 101, 0, true);
        x.ride(0, 0, 102, 0, false);
        x.ride(0, 2, 102, 0, true);
        Check.same("19: one is out", x.place(0, 2) + x.place(0, 0), -2);
        Check.refuses("26: is out ahead of no score", SUPPORT, x, () -> x.need(0, 2, 0));
        x.close(0);
        Check.refuses("26: closed ahead of no score", SUPPORT, x, () -> x.need(0, 0, 0));
        Check.refuses("26: no surfer ahead of closed", INDEX, x, () -> x.need(0, 4, 1));
    }

    private static void events() {
        Prioritywave x = new Prioritywave();
        Check.refuses("28: no bank ahead of too few", INDEX, x, () -> x.event(0));
        x.bank(0, 100, 0, 400);
        Check.refuses("28: too few alone", SUPPORT, x, () -> x.event(0));
        for (int i = 0; i < 12; i++) {
            x.surfer(0);
        }
        for (int i = 0; i < 4; i++) {
            x.event(0);
        }
        Check.refuses("28: no bank ahead of too many", INDEX, x, () -> x.event(1));
        Check.refuses("28: too many alone", STATE, x, () -> x.event(0));
        x.cut(11);
        Check.refuses("28: too few ahead of too many", SUPPORT, x, () -> x.event(0));
        Check.refuses("28: no bank ahead of all", INDEX, x, () -> x.event(-1));
    }

    private static void rounds() {
        Prioritywave x = EventTest.tour(12);
        Check.refuses("29: no event ahead of no minute", INDEX, x, () -> x.round(0, 99940));
        x.event(0);
        x.round(0, 0);
        Check.refuses("29: no event ahead of open heats", INDEX, x, () -> x.round(1, 0));
        Check.refuses("29: no minute ahead of open heats", ARGUMENT, x, () -> x.round(0, -1));
        Check.refuses("29: open heats alone", SUPPORT, x, () -> x.round(0, 0));

        Prioritywave y = RangeTest.ended();
        Check.refuses("29: no minute ahead of the round 5", ARGUMENT, y, () -> y.round(0, 99940));
        Check.refuses("29: the round 5 alone", SUPPORT, y, () -> y.round(0, 0));
    }

    private static void fullRounds() {
        Prioritywave x = EventTest.tour(12);
        x.event(0);
        x.event(0);
        x.round(0, 0);
        for (int i = 4; i < 40; i++) {
            x.heat(0, 0, 10, 3);
        }
        Check.refuses("29: no event ahead of too many", INDEX, x, () -> x.round(2, 0));
        Check.refuses("29: no minute ahead of too many", ARGUMENT, x, () -> x.round(1, 99940));
        Check.refuses("29: too many alone", STATE, x, () -> x.round(1, 0));
        Check.refuses("29: open heats ahead of too many", SUPPORT, x, () -> x.round(0, 0));
        Check.refuses("29: no minute ahead of both", ARGUMENT, x, () -> x.round(0, -1));

        Prioritywave y = RangeTest.ended();
        for (int i = 15; i < 40; i++) {
            y.heat(0, 0, 10, 3);
        }
        Check.refuses("29: the round 5 ahead of too many", SUPPORT, y, () -> y.round(0, 0));
    }

    private static void heatsOfEvents() {
        Prioritywave x = EventTest.tour(12);
        Check.refuses("31: no event ahead of no round", INDEX, x, () -> x.heatOf(0, 1, 0));
        x.event(0);
        Check.refuses("31: no round alone", ELEMENT, x, () -> x.heatOf(0, 1, 0));
        x.round(0, 0);
        Check.refuses("31: no event ahead of no heat", INDEX, x, () -> x.heatOf(1, 1, 4));
        Check.refuses("31: no heat alone", ELEMENT, x, () -> x.heatOf(0, 1, 4));
    }

    private static void eventPoints() {
        Prioritywave x = EventTest.tour(12);
        Check.refuses("33: no event, no surfer", INDEX, x, () -> x.eventPoints(0, 12));
        x.event(0);
        Check.refuses("33: no surfer alone", INDEX, x, () -> x.eventPoints(0, 12));
        Check.refuses("33: no event alone", INDEX, x, () -> x.eventPoints(1, 0));
    }
}
