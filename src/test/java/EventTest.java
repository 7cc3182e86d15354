import java.util.NoSuchElementException;

/** Promises 28 to 33: events, their draw and their points. */
final class EventTest {
    private static final Class<IllegalArgumentException> ARGUMENT = IllegalArgumentException.class;
    private static final Class<IllegalStateException> STATE = IllegalStateException.class;
    private static final Class<IndexOutOfBoundsException> INDEX = IndexOutOfBoundsException.class;
    private static final Class<UnsupportedOperationException> SUPPORT = UnsupportedOperationException.class;
    private static final Class<NoSuchElementException> ELEMENT = NoSuchElementException.class;

    private EventTest() {
    }

    static void run() {
        eventRefusals();
        eventLimit();
        eventField();
        roundRefusals();
        roundLimit();
        roundOne();
        upsets();
        heatsOfEvents();
        heatOfRefusals();
        pointsOfAll();
        eventPointsRefusals();
        eachOpenHeat();
        minutesOfRounds();
        pointsAtTheEnd();
        cutWhileItGoes();
        heatsBegunAnew();
    }

    /** A tour of so many, of whom the surfer 0 is the first seed and so on, with waves, marks and a bank. */
    static Prioritywave tour(int count) {
        Prioritywave x = HeatTest.withSurfers(0);
        for (int i = 0; i < count; i++) {
            x.surfer(1000 - i);
        }
        return x;
    }

    /** Closes the heats from a number on, before that with a ride of the surfer told as this index. */
    static void closeWith(Prioritywave x, int firstHeat, int minute, int... winners) {
        for (int i = 0; i < winners.length; i++) {
            int winner = x.surferAt(firstHeat + i, winners[i]);
            x.ride(firstHeat + i, winner, minute, 0, false);
            Check.same("17: who is first", x.close(firstHeat + i), winner);
        }
    }

    static void who(String what, Prioritywave x, int heat, int... due) {
        for (int index = 0; index < due.length; index++) {
            Check.same(what + ", told as " + index, x.surferAt(heat, index), due[index]);
        }
        Check.refuses(what + ", no more", ELEMENT, x, () -> x.surferAt(heat, due.length));
    }

    private static void eventRefusals() {
        Prioritywave x = new Prioritywave();
        Check.refuses("28: no bank goes first", INDEX, x, () -> x.event(0));
        x.bank(0, 100, 0, 400);
        for (int i = 0; i < 11; i++) {
            x.surfer(i);
        }
        Check.refuses("28: no bank 1", INDEX, x, () -> x.event(1));
        Check.refuses("28: no bank -1", INDEX, x, () -> x.event(-1));
        Check.refuses("28: eleven", SUPPORT, x, () -> x.event(0));
        Check.refuses("28: none was made", INDEX, x, () -> x.rounds(0));
        x.surfer(11);
        Check.same("28: twelve", x.event(0), 0);
        x.cut(11);
        Check.refuses("28: eleven who are not cut", SUPPORT, x, () -> x.event(0));
        x.surfer(0);
        Check.same("28: twelve who are not cut", x.event(0), 1);
    }

    private static void eventLimit() {
        Prioritywave x = tour(12);
        for (int i = 0; i < 4; i++) {
            Check.same("28: number", x.event(0), i);
        }
        Check.refuses("28: a fifth", STATE, x, () -> x.event(0));
        Check.refuses("28: a fifth without a bank", INDEX, x, () -> x.event(1));
        x.cut(1);
        Check.refuses("28: too few go first", SUPPORT, x, () -> x.event(0));
        Check.refuses("28: no event 4", INDEX, x, () -> x.rounds(4));
    }

    private static void eventField() {
        Prioritywave x = tour(13);
        x.heat(0, 0, 10, 3);
        x.event(0);
        Check.same("29: the number of the first one", x.round(0, 0), 1);
        who("28: the first seeds", x, 1, 0, 7, 8);
        who("28: not the 13th", x, 4, 3, 4, 11);
        x.cut(11);
        x.surfer(0);
        x.event(0);
        x.round(1, 0);
        who("28: the first seeds who are not cut", x, 8, 3, 4, 13);

        Prioritywave y = new Prioritywave();
        y.bank(0, 100, 0, 400);
        for (int i = 0; i < 14; i++) {
            y.surfer(i == 13 ? 100 : 50);
        }
        y.event(0);
        y.surfer(1000);
        y.round(0, 0);
        who("28: the first seeds as it is made, alike ones by lower numbers", y, 0, 13, 6, 7);
        who("28: the last seeds", y, 3, 2, 3, 10);
    }

    private static void roundRefusals() {
        Prioritywave x = tour(12);
        Check.refuses("29: no event goes first", INDEX, x, () -> x.round(0, -1));
        x.event(0);
        Check.refuses("29: no event 1", INDEX, x, () -> x.round(1, 0));
        Check.refuses("29: no event -1", INDEX, x, () -> x.round(-1, 0));
        Check.refuses("29: minute -1", ARGUMENT, x, () -> x.round(0, -1));
        Check.refuses("29: minute 99940", ARGUMENT, x, () -> x.round(0, 99940));
        Check.same("30: none was made", x.rounds(0), 0);
        Check.same("29: the latest minute", x.round(0, 99939), 0);
        Check.same("29: of all of them", x.block(3, 3, 99939 + 29), -1);
        Check.refuses("29: thirty minutes each", SUPPORT, x, () -> x.block(3, 3, 99939 + 30));
        Check.refuses("29: heats are open", SUPPORT, x, () -> x.round(0, 0));
        Check.refuses("29: a wrong minute goes first", ARGUMENT, x, () -> x.round(0, -1));
        x.close(0);
        x.close(1);
        x.close(3);
        Check.refuses("29: one is open", SUPPORT, x, () -> x.round(0, 0));
        Check.same("30: one round was made", x.rounds(0), 1);
        Check.refuses("29: no heat was made", INDEX, x, () -> x.isOpen(4));
        x.close(2);
        Check.same("29: the round 2", x.round(0, 0), 4);
        Check.refuses("29: its heats are open", SUPPORT, x, () -> x.round(0, 0));
    }

    private static void roundLimit() {
        Prioritywave x = tour(12);
        for (int i = 0; i < 37; i++) {
            x.heat(0, 0, 10, 3);
        }
        x.event(0);
        Check.refuses("29: 41 heats", STATE, x, () -> x.round(0, 0));
        Check.refuses("29: a wrong minute goes first", ARGUMENT, x, () -> x.round(0, -1));
        Check.same("30: none was made", x.rounds(0), 0);
        Check.same("8: three can be made", x.heat(0, 0, 10, 3), 37);

        Prioritywave y = tour(12);
        for (int i = 0; i < 36; i++) {
            y.heat(0, 0, 10, 3);
        }
        y.event(0);
        Check.same("29: 40 heats", y.round(0, 0), 36);
        Check.refuses("29: an open heat goes ahead of too many", SUPPORT, y, () -> y.round(0, 0));
        for (int i = 36; i < 40; i++) {
            y.close(i);
        }
        Check.refuses("29: 44 heats", STATE, y, () -> y.round(0, 0));
        Check.same("30: one was made", y.rounds(0), 1);
    }

    private static void roundOne() {
        Prioritywave x = tour(12);
        x.event(0);
        x.round(0, 0);
        who("29: heat 0", x, 0, 0, 7, 8);
        who("29: heat 1", x, 1, 1, 6, 9);
        who("29: heat 2", x, 2, 2, 5, 10);
        who("29: heat 3", x, 3, 3, 4, 11);
        Check.same("29: at the bank of the event", x.ride(0, 0, 5, 0, false), 500);
        Check.refuses("29: its waves", SUPPORT, x, () -> x.ride(0, 0, 6, 0, false));
        Check.refuses("29: of no one else", SUPPORT, x, () -> x.ride(0, 1, 10, 0, false));

        Prioritywave y = tour(12);
        y.bank(0, 10, 0, 400);
        y.event(1);
        y.round(0, 0);
        Check.refuses("29: a bank with lower waves", SUPPORT, y, () -> y.ride(0, 0, 5, 0, false));
    }

    /** Seeds that are told behind win, so that each one comes from another place. */
    private static void upsets() {
        Prioritywave x = tour(12);
        x.event(0);
        x.round(0, 0);
        closeWith(x, 0, 0, 2, 1, 0, 1);
        // Heat 0: 8, 0, 7; heat 1: 6, 1, 9; heat 2: 2, 5, 10; heat 3: 4, 3, 11.
        Check.same("29: round 2", x.round(0, 100), 4);
        who("29: the second one of heat 0, the third one of heat 3", x, 4, 0, 11);
        who("29: the second one of heat 1, the third one of heat 2", x, 5, 1, 10);
        who("29: the second one of heat 2, the third one of heat 1", x, 6, 5, 9);
        who("29: in the order of seeds", x, 7, 3, 7);
        closeWith(x, 4, 100, 1, 0, 1, 1);
        // Winners: 11, 1, 9, 7.
        Check.same("29: round 3", x.round(0, 200), 8);
        who("29: winner of heat 0, and of heat 3 of round 2", x, 8, 7, 8);
        who("29: winner of heat 1, and of heat 2 of round 2", x, 9, 6, 9);
        who("29: winner of heat 2, and of heat 1 of round 2", x, 10, 1, 2);
        who("29: winner of heat 3, and of heat 0 of round 2", x, 11, 4, 11);
        closeWith(x, 8, 200, 1, 0, 0, 1);
        // Winners: 8, 6, 1, 11.
        Check.same("29: round 4", x.round(0, 300), 12);
        who("29: winners of heats 0 and 3", x, 12, 8, 11);
        who("29: winners of heats 1 and 2", x, 13, 1, 6);
        closeWith(x, 12, 300, 1, 0);
        Check.same("29: round 5", x.round(0, 400), 14);
        who("29: winners of both", x, 14, 1, 11);
        Check.same("33: it is not over", x.eventPoints(0, 11), 0);
        Check.same("35: nor counts", x.points(11), 0);
        closeWith(x, 14, 400, 1);
        points(x, 3320, 7800, 4745, 3320, 4745, 3320, 6085, 4745, 6085, 4745, 3320, 10000);
        Check.refuses("29: round 5 was made", SUPPORT, x, () -> x.round(0, 500));
        Check.refuses("29: a wrong minute goes first", ARGUMENT, x, () -> x.round(0, 99940));
        Check.same("30: five rounds", x.rounds(0), 5);
        Check.yes("42: sound", x.isSound());
    }

    private static void points(Prioritywave x, int... due) {
        for (int surfer = 0; surfer < due.length; surfer++) {
            Check.same("33: points of " + surfer, x.eventPoints(0, surfer), due[surfer]);
            Check.same("35: points of " + surfer, x.points(surfer), due[surfer]);
        }
    }

    private static void heatsOfEvents() {
        Prioritywave x = tour(13);
        x.event(0);
        x.event(0);
        x.round(1, 0);
        x.heat(0, 0, 10, 3);
        x.round(0, 0);
        Check.same("31: of the second event", x.heatOf(1, 1, 0), 0);
        Check.same("31: its last one", x.heatOf(1, 1, 3), 3);
        Check.same("31: of the first event", x.heatOf(0, 1, 0), 5);
        for (int i = 0; i < 4; i++) {
            x.close(i);
        }
        Check.same("29: behind that of the first one", x.round(1, 0), 9);
        Check.same("31: of the round 2", x.heatOf(1, 2, 2), 11);
        Check.same("30: two", x.rounds(1), 2);
        Check.same("30: one", x.rounds(0), 1);
    }

    private static void heatOfRefusals() {
        Prioritywave x = tour(12);
        Check.refuses("31: no event goes first", INDEX, x, () -> x.heatOf(0, 0, 0));
        Check.refuses("30: no event", INDEX, x, () -> x.rounds(0));
        x.event(0);
        Check.refuses("30: no event 1", INDEX, x, () -> x.rounds(1));
        Check.refuses("30: no event -1", INDEX, x, () -> x.rounds(-1));
        Check.refuses("31: no event 1", INDEX, x, () -> x.heatOf(1, 1, 0));
        Check.refuses("31: no round was made", ELEMENT, x, () -> x.heatOf(0, 1, 0));
        x.round(0, 0);
        Check.refuses("31: no round 0", ELEMENT, x, () -> x.heatOf(0, 0, 0));
        Check.refuses("31: no round 2", ELEMENT, x, () -> x.heatOf(0, 2, 0));
        Check.refuses("31: no index -1", ELEMENT, x, () -> x.heatOf(0, 1, -1));
        Check.refuses("31: no index 4", ELEMENT, x, () -> x.heatOf(0, 1, 4));
        int heat = 0;
        for (int round = 1; round < 5; round++) {
            for (int i = 0; i < (round < 4 ? 4 : 2); i++) {
                x.close(heat);
                heat++;
            }
            x.round(0, 0);
        }
        Check.same("31: the last one of the round 3", x.heatOf(0, 3, 3), 11);
        Check.same("31: the last one of the round 4", x.heatOf(0, 4, 1), 13);
        Check.refuses("31: no third one in the round 4", ELEMENT, x, () -> x.heatOf(0, 4, 2));
        Check.same("31: that of the round 5", x.heatOf(0, 5, 0), 14);
        Check.refuses("31: no second one in the round 5", ELEMENT, x, () -> x.heatOf(0, 5, 1));
        Check.refuses("31: no round 6", ELEMENT, x, () -> x.heatOf(0, 6, 0));
        Check.refuses("29: round 5 is open", SUPPORT, x, () -> x.round(0, 0));
    }

    /** Tells an event to its end; in each heat the first one told wins. */
    static void whole(Prioritywave x, int event) {
        for (int round = 1; round <= 5; round++) {
            int heat = x.round(event, 0);
            int count = round < 4 ? 4 : round == 4 ? 2 : 1;
            for (int i = 0; i < count; i++) {
                x.close(heat + i);
            }
        }
    }

    private static void pointsOfAll() {
        Prioritywave x = tour(14);
        x.event(0);
        whole(x, 0);
        points(x, 10000, 7800, 6085, 6085, 4745, 4745, 4745, 4745, 3320, 3320, 3320, 3320, 0, 0);
    }

    private static void eventPointsRefusals() {
        Prioritywave x = tour(12);
        Check.refuses("33: no event", INDEX, x, () -> x.eventPoints(0, 0));
        x.event(0);
        Check.refuses("33: no event 1", INDEX, x, () -> x.eventPoints(1, 0));
        Check.refuses("33: no event -1", INDEX, x, () -> x.eventPoints(-1, 0));
        Check.refuses("33: no surfer 12", INDEX, x, () -> x.eventPoints(0, 12));
        Check.refuses("33: no surfer -1", INDEX, x, () -> x.eventPoints(0, -1));
        Check.same("33: not begun", x.eventPoints(0, 0), 0);
        x.surfer(5);
        Check.same("33: not in it", x.eventPoints(0, 12), 0);
    }

    /** "if a heat of the round before is open": each one of them alone. */
    private static void eachOpenHeat() {
        int[] sizes = {4, 4, 4, 2, 1};
        for (int round = 1; round <= 5; round++) {
            int size = sizes[round - 1];
            for (int open = 0; open < size; open++) {
                Prioritywave x = RangeTest.begun(round);
                int first = x.heatOf(0, round, 0);
                for (int index = 0; index < size; index++) {
                    if (index != open) {
                        x.close(first + index);
                    }
                }
                Check.refuses("29: the heat " + open + " of the round " + round + " is open", SUPPORT, x,
                        () -> x.round(0, 0));
                Check.same("30: no round more", x.rounds(0), round);
                x.close(first + open);
                if (round < 5) {
                    Check.same("29: none is open", x.round(0, 0), first + size);
                } else {
                    Check.refuses("29: the round 5 was made", SUPPORT, x, () -> x.round(0, 0));
                }
            }
        }
    }

    /** "the first minute of all of them, 0 to 99939", "30 minutes each". */
    private static void minutesOfRounds() {
        for (int first : new int[] {0, 1, 4711, 99939}) {
            Prioritywave x = tour(12);
            x.event(0);
            for (int heat = 0; heat < 15; heat++) {
                if (heat % 4 == 0 && heat < 14 || heat == 14) {
                    x.round(0, first);
                }
                int number = heat;
                int surfer = x.surferAt(heat, 0);
                Check.refuses("29: a minute ahead", SUPPORT, x, () -> x.block(number, surfer, first - 1));
                Check.same("29: the first minute", x.block(number, surfer, first), -1);
                Check.refuses("29: behind thirty minutes", SUPPORT, x, () -> x.block(number, surfer, first + 30));
                Check.same("29: the thirtieth minute", x.block(number, surfer, first + 29), -1);
                closeLast(x, heat);
            }
        }
    }

    /** Closes the heats of the round that ends with this one. */
    private static void closeLast(Prioritywave x, int heat) {
        int first = heat == 13 ? 12 : heat == 14 ? 14 : heat % 4 == 3 ? heat - 3 : heat + 1;
        for (int number = first; number <= heat; number++) {
            x.close(number);
        }
    }

    /** "As the last heat of an event is closed, its surfers have points", "0 if it is not over". */
    private static void pointsAtTheEnd() {
        Prioritywave x = tour(13);
        x.event(0);
        for (int heat = 0; heat < 15; heat++) {
            if (heat % 4 == 0 && heat < 14 || heat == 14) {
                x.round(0, 0);
            }
            for (int surfer = 0; surfer < 13; surfer++) {
                Check.same("33: not over", x.eventPoints(0, surfer), 0);
            }
            x.close(heat);
        }
        points(x, 10000, 7800, 6085, 6085, 4745, 4745, 4745, 4745, 3320, 3320, 3320, 3320, 0);
    }

    /** "all others are cut for good, and in no event made later": but in one that was made before. */
    private static void cutWhileItGoes() {
        Prioritywave x = tour(14);
        x.event(0);
        Check.same("37: all but one", x.cut(1), 13);
        x.round(0, 0);
        who("29: who is cut stays in the event", x, 0, 0, 7, 8);
        for (int heat = 0; heat < 4; heat++) {
            x.close(heat);
        }
        x.round(0, 0);
        who("29: in the round 2 too", x, 4, 7, 11);
        for (int round = 2; round <= 5; round++) {
            int size = round < 4 ? 4 : round == 4 ? 2 : 1;
            for (int index = 0; index < size; index++) {
                x.close(x.heatOf(0, round, index));
            }
            if (round < 5) {
                x.round(0, 0);
            }
        }
        points(x, 10000, 7800, 6085, 6085, 4745, 4745, 4745, 4745, 3320, 3320, 3320, 3320, 0, 0);
        Check.refuses("28: one is not cut", SUPPORT, x, () -> x.event(0));
    }

    private static void heatsBegunAnew() {
        Prioritywave x = tour(12);
        x.event(0);
        x.round(0, 100);
        x.suspend(0, 0, 105);
        Check.yes("16: a heat of an event", x.restart(0, 110));
        Check.same("16: for 30 minutes", x.block(0, 0, 139), -1);
        Check.refuses("16: for no longer", SUPPORT, x, () -> x.block(0, 0, 140));
        Check.same("16: the others begin as told", x.block(1, 1, 100), -1);
    }
}
