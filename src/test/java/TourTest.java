import java.util.NoSuchElementException;

/** Promises 34 to 38: dropped events, points of the tour, seeds and cuts. */
final class TourTest {
    private static final Class<IllegalArgumentException> ARGUMENT = IllegalArgumentException.class;
    private static final Class<IndexOutOfBoundsException> INDEX = IndexOutOfBoundsException.class;
    private static final Class<NoSuchElementException> ELEMENT = NoSuchElementException.class;

    private TourTest() {
    }

    static void run() {
        drops();
        pointsOfOne();
        pointsOfTwo();
        pointsOfUnfinished();
        pointsOfFour();
        seedsOfYears();
        seedsOfPoints();
        cuts();
        cutForGood();
        refusals();
        seedsByAll();
        cutSeedsOfPoints();
        pointsOfWhoIsCut();
    }

    private static void drops() {
        Prioritywave x = new Prioritywave();
        Check.same("34: none at first", x.drop(3), 0);
        Check.refuses("34: -1", ARGUMENT, x, () -> x.drop(-1));
        Check.refuses("34: 4", ARGUMENT, x, () -> x.drop(4));
        Check.same("34: three before", x.drop(0), 3);
        Check.same("34: none before", x.drop(1), 0);
        Check.same("34: one before", x.drop(1), 1);
    }

    private static void pointsOfOne() {
        Prioritywave x = EventTest.tour(12);
        Check.same("35: without events", x.points(0), 0);
        x.drop(3);
        Check.same("35: more dropped than there are", x.points(0), 0);
        x.drop(0);
        x.event(0);
        EventTest.whole(x, 0);
        Check.same("35: the winner", x.points(0), 10000);
        Check.same("35: the other one", x.points(1), 7800);
        x.drop(1);
        Check.same("35: the only event dropped", x.points(0), 0);
        x.drop(3);
        Check.same("35: three of one dropped", x.points(0), 0);
        x.drop(0);
        Check.same("35: none dropped any more", x.points(0), 10000);
    }

    private static void pointsOfTwo() {
        Prioritywave x = EventTest.tour(13);
        x.event(0);
        EventTest.whole(x, 0);
        x.surfer(0);
        x.event(0);
        int[] second = {1, 1, 1, 1};
        for (int round = 1; round <= 5; round++) {
            int heats = round < 4 ? 4 : round == 4 ? 2 : 1;
            EventTest.closeWith(x, x.round(1, 0), 0, java.util.Arrays.copyOf(second, heats));
        }
        int[] first = {10000, 7800, 6085, 6085, 4745, 4745, 4745, 4745, 3320, 3320, 3320, 3320, 0, 0};
        for (int dropped = 0; dropped <= 3; dropped++) {
            x.drop(dropped);
            for (int surfer = 0; surfer < first.length; surfer++) {
                int one = x.eventPoints(0, surfer);
                int other = x.eventPoints(1, surfer);
                int due = dropped == 0 ? one + other : dropped == 1 ? Math.max(one, other) : 0;
                Check.same("33: of the first event", one, first[surfer]);
                Check.same("35: dropped " + dropped, x.points(surfer), due);
            }
        }
        Check.no("33: the second event came out otherwise", x.eventPoints(1, 0) == 10000);
        Check.yes("42: sound", x.isSound());
    }

    private static void pointsOfUnfinished() {
        Prioritywave x = EventTest.tour(12);
        x.event(0);
        EventTest.whole(x, 0);
        x.drop(1);
        Check.same("35: the only event is dropped", x.points(0), 0);
        x.event(0);
        Check.same("35: one that is not over counts 0 and is the least", x.points(0), 10000);
        x.drop(2);
        Check.same("35: both dropped", x.points(0), 0);
        x.surfer(0);
        x.drop(0);
        Check.same("35: in no event", x.points(12), 0);
    }

    /** Of four events the last one is over first, then the second one; as told first wins, the field is the same. */
    private static void pointsOfFour() {
        Prioritywave x = EventTest.tour(13);
        for (int event = 0; event < 4; event++) {
            x.event(0);
        }
        EventTest.whole(x, 3);
        x.drop(3);
        Check.same("35: three that are not over dropped", x.points(0), 10000);
        EventTest.whole(x, 1);
        int[] due = {20000, 20000, 20000, 10000};
        for (int dropped = 0; dropped <= 3; dropped++) {
            x.drop(dropped);
            Check.same("35: in none of them, dropped " + dropped, x.points(12), 0);
            Check.same("35: dropped " + dropped, x.points(0), due[dropped]);
            Check.same("35: the third seed, dropped " + dropped, x.points(2), due[dropped] / 10000 * 6085);
        }
        Check.yes("42: sound", x.isSound());
    }

    private static void seedsOfYears() {
        Prioritywave x = new Prioritywave();
        x.surfer(5);
        x.surfer(7);
        x.surfer(5);
        x.surfer(99999);
        int[] due = {3, 1, 0, 2};
        for (int rank = 0; rank < due.length; rank++) {
            Check.same("36: by the year before, then by numbers", x.seed(rank), due[rank]);
        }
        Check.refuses("36: no seed 4", ELEMENT, x, () -> x.seed(4));
        Check.refuses("36: no seed -1", ELEMENT, x, () -> x.seed(-1));
        x.surfer(6);
        Check.same("36: at each moment", x.seed(2), 4);
    }

    private static void seedsOfPoints() {
        Prioritywave x = EventTest.tour(12);
        x.event(0);
        EventTest.whole(x, 0);
        x.surfer(99999);
        Check.same("36: points of the tour go first", x.seed(0), 0);
        Check.same("36: the year before is behind them", x.seed(12), 12);
        Check.same("36: alike in points, by the year before", x.seed(2), 2);
        x.drop(1);
        Check.same("36: none has points now", x.seed(0), 12);
        Check.same("36: then by the year before", x.seed(1), 0);
    }

    private static void cuts() {
        Prioritywave x = new Prioritywave();
        for (int i = 0; i < 6; i++) {
            x.surfer(i);
        }
        Check.same("37: all are kept", x.cut(6), 0);
        Check.same("37: more than there are", x.cut(16), 0);
        Check.same("37: two are cut", x.cut(4), 2);
        Check.yes("38: the last seed", x.isCut(0));
        Check.yes("38: the seed ahead of it", x.isCut(1));
        Check.no("38: who is kept", x.isCut(2));
        Check.same("37: none more", x.cut(5), 0);
        Check.same("37: three more", x.cut(1), 3);
        Check.no("38: the first seed", x.isCut(5));
        Check.same("36: who is cut is seeded", x.seed(5), 0);
        x.surfer(3);
        Check.no("38: one who came later", x.isCut(6));
    }

    private static void cutForGood() {
        Prioritywave x = new Prioritywave();
        x.surfer(10);
        x.surfer(30);
        x.surfer(20);
        Check.same("37: one is cut", x.cut(2), 1);
        x.surfer(5);
        x.surfer(4);
        Check.same("37: who is cut is among the first three seeds", x.cut(3), 2);
        Check.yes("38: for good", x.isCut(0));
        Check.yes("38: the fourth seed", x.isCut(3));
        Check.yes("38: the fifth seed", x.isCut(4));
        Check.no("38: the second seed", x.isCut(2));
    }

    private static void refusals() {
        Prioritywave x = new Prioritywave();
        Check.refuses("35: no surfer", INDEX, x, () -> x.points(0));
        Check.refuses("38: no surfer", INDEX, x, () -> x.isCut(0));
        Check.same("37: nobody to cut", x.cut(1), 0);
        x.surfer(1);
        x.surfer(2);
        Check.refuses("35: surfer -1", INDEX, x, () -> x.points(-1));
        Check.refuses("35: surfer 2", INDEX, x, () -> x.points(2));
        Check.refuses("38: surfer -1", INDEX, x, () -> x.isCut(-1));
        Check.refuses("38: surfer 2", INDEX, x, () -> x.isCut(2));
        Check.refuses("37: 0", ARGUMENT, x, () -> x.cut(0));
        Check.refuses("37: 17", ARGUMENT, x, () -> x.cut(17));
        Check.refuses("37: negative", ARGUMENT, x, () -> x.cut(Integer.MIN_VALUE));
        Check.no("38: refused cuts cut nobody", x.isCut(0));
    }

    /** "by the points of the tour, more first, then by those of the year before, more first, then by lower numbers". */
    private static void seedsByAll() {
        Prioritywave x = HeatTest.withSurfers(0);
        int[] years = {7, 9, 9, 7, 7, 9, 0, 0, 0, 0, 0, 99999, 99999, 3};
        for (int year : years) {
            x.surfer(year);
        }
        seeds(x, "by the year before", 11, 12, 1, 2, 5, 0, 3, 4, 13, 6, 7, 8, 9, 10);
        x.event(0);
        seeds(x, "an event alone changes nothing", 11, 12, 1, 2, 5, 0, 3, 4, 13, 6, 7, 8, 9, 10);
        for (int round = 1; round <= 5; round++) {
            int size = round < 4 ? 4 : round == 4 ? 2 : 1;
            int[] winners = new int[size];
            java.util.Arrays.fill(winners, 1);
            EventTest.closeWith(x, x.round(0, 0), 0, winners);
        }
        int before = 20000;
        for (int seed = 0; seed < years.length; seed++) {
            int surfer = x.seed(seed);
            Check.yes("36: more points first", x.points(surfer) <= before);
            if (seed > 0 && x.points(surfer) == before) {
                int ahead = x.seed(seed - 1);
                Check.yes("36: more of the year before first, then the lower number", years[ahead] > years[surfer]
                        || years[ahead] == years[surfer] && ahead < surfer);
            }
            before = x.points(surfer);
        }
        Check.same("36: the winner", x.points(x.seed(0)), 10000);
        Check.no("36: who was the first seed", x.seed(0) == 11);
        x.drop(1);
        seeds(x, "with the event dropped", 11, 12, 1, 2, 5, 0, 3, 4, 13, 6, 7, 8, 9, 10);
    }

    private static void seeds(Prioritywave x, String what, int... due) {
        for (int seed = 0; seed < due.length; seed++) {
            Check.same("36: seed " + seed + ", " + what, x.seed(seed), due[seed]);
        }
    }

    /** "A cut keeps the first ones of all seeds": by the seeds as they are, with what is dropped. */
    private static void cutSeedsOfPoints() {
        for (int dropped = 0; dropped <= 1; dropped++) {
            Prioritywave x = EventTest.tour(12);
            x.event(0);
            EventTest.whole(x, 0);
            x.surfer(99999);
            x.drop(dropped);
            Check.same("37: twelve are cut", x.cut(1), 12);
            Check.same("38: the one ahead in points of the tour", x.isCut(0) ? 1 : 0, dropped);
            Check.same("38: the one ahead in the year before", x.isCut(12) ? 1 : 0, 1 - dropped);
        }
    }

    private static void pointsOfWhoIsCut() {
        Prioritywave x = EventTest.tour(12);
        x.event(0);
        EventTest.whole(x, 0);
        x.cut(1);
        Check.yes("38: the second seed", x.isCut(1));
        Check.same("35: keeps points", x.points(1), 7800);
        Check.same("33: of the event too", x.eventPoints(0, 1), 7800);
        Check.same("36: and the seed", x.seed(1), 1);
    }
}
