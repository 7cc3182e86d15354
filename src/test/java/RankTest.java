import java.util.NoSuchElementException;

/** Promises 22 and 24 to 26: what counts, the ranks, and what is needed for them. */
final class RankTest {
    private static final Class<IndexOutOfBoundsException> INDEX = IndexOutOfBoundsException.class;
    private static final Class<UnsupportedOperationException> SUPPORT = UnsupportedOperationException.class;
    private static final Class<NoSuchElementException> ELEMENT = NoSuchElementException.class;

    private RankTest() {
    }

    static void run() {
        totals();
        totalByN();
        totalByP();
        totalByTwo();
        ranksBySum();
        ranksByBest();
        ranksBySecond();
        needs();
        needOfHalf();
        needOfBest();
        needBounds();
        refusals();
    }

    /** Types five alike marks and tells a ride with them. */
    static void ride(Prioritywave x, int surfer, int minute, int score, boolean isHindering) {
        x.wipe();
        for (int i = 0; i < 5; i++) {
            x.mark(score);
        }
        Check.same("9: a score of five alike", x.ride(0, surfer, minute, 0, isHindering), score);
    }

    private static Prioritywave heatOf(int surfers) {
        Prioritywave x = HeatTest.withSurfers(surfers + 1);
        x.heat(0, 0, 60, (1 << surfers) - 1);
        return x;
    }

    private static void totals() {
        Prioritywave x = heatOf(3);
        Check.same("22: nothing", x.total(0, 0), 0);
        ride(x, 0, 0, 401, false);
        Check.same("22: 0 for what is missing", x.total(0, 0), 401);
        ride(x, 0, 5, 300, false);
        Check.same("22: the two best", x.total(0, 0), 701);
        ride(x, 0, 10, 350, false);
        Check.same("22: a better second one", x.total(0, 0), 751);
        ride(x, 0, 15, 900, false);
        Check.same("22: a better best one", x.total(0, 0), 1301);
        ride(x, 0, 20, 100, false);
        Check.same("22: a low one does not count", x.total(0, 0), 1301);
    }

    private static void totalByN() {
        Prioritywave x = heatOf(3);
        ride(x, 1, 0, 600, false);
        ride(x, 0, 0, 501, true);
        Check.same("23: by n", x.hindered(0, 0, 'n'), 1);
        Check.same("22: the best one counts whole", x.total(0, 0), 501);
        ride(x, 0, 5, 333, false);
        Check.same("22: the second one counts half, cut", x.total(0, 0), 501 + 166);
        ride(x, 0, 10, 900, false);
        Check.same("22: that of the ride that hindered too", x.total(0, 0), 900 + 250);
        Check.same("22: the other one's whole", x.total(0, 1), 600);
    }

    private static void totalByP() {
        Prioritywave x = heatOf(3);
        x.suspend(0, 0, 0);
        x.suspend(0, 1, 0);
        ride(x, 0, 0, 400, false);
        ride(x, 1, 0, 700, true);
        Check.same("23: by p", x.hindered(0, 1, 'p'), 1);
        ride(x, 1, 5, 600, false);
        Check.same("22: only the best one", x.total(0, 1), 700);
        ride(x, 1, 10, 800, false);
        Check.same("22: only the best one now", x.total(0, 1), 800);
    }

    private static void totalByTwo() {
        Prioritywave x = heatOf(4);
        ride(x, 0, 0, 100, false);
        ride(x, 1, 0, 301, true);
        ride(x, 1, 5, 501, false);
        Check.same("22: by n half of the second one", x.total(0, 1), 501 + 150);
        ride(x, 2, 5, 100, true);
        Check.same("23: by n and by p", x.hindered(0, 1, 'n') + 10 * x.hindered(0, 1, 'p'), 11);
        Check.same("22: by p only the best one", x.total(0, 1), 501);
    }

    private static void ranksBySum() {
        Prioritywave x = heatOf(3);
        Check.same("24: nobody rode, as told", x.rank(0, 0), 1);
        Check.same("24: nobody rode, the last one", x.rank(0, 2), 3);
        ride(x, 2, 0, 300, false);
        ride(x, 1, 0, 500, false);
        ride(x, 2, 5, 250, false);
        Check.same("24: more in sum", x.rank(0, 2), 1);
        Check.same("24: less in sum", x.rank(0, 1), 2);
        Check.same("24: nothing", x.rank(0, 0), 3);
        Check.same("25: rank 1", x.ranked(0, 1), 2);
        Check.same("25: rank 2", x.ranked(0, 2), 1);
        Check.same("25: rank 3", x.ranked(0, 3), 0);
        x.leave(0, 2, 5);
        Check.same("24: one who has left is ranked", x.rank(0, 2), 1);
    }

    private static void ranksByBest() {
        Prioritywave x = heatOf(3);
        ride(x, 0, 0, 400, false);
        ride(x, 1, 0, 500, false);
        ride(x, 0, 5, 400, false);
        ride(x, 1, 5, 300, false);
        Check.same("24: alike in sum, the better best score", x.rank(0, 1), 1);
        Check.same("24: the other one", x.rank(0, 0), 2);
        ride(x, 2, 10, 500, false);
        ride(x, 2, 15, 300, false);
        Check.same("24: alike in all, as told", x.rank(0, 1), 1);
        Check.same("24: then the one told behind", x.rank(0, 2), 2);
    }

    private static void ranksBySecond() {
        Prioritywave x = heatOf(3);
        x.suspend(0, 0, 0);
        x.suspend(0, 1, 0);
        ride(x, 0, 0, 600, false);
        ride(x, 1, 0, 600, true);
        Check.same("24: alike, as told", x.rank(0, 0), 1);
        ride(x, 1, 5, 200, false);
        Check.same("22: the second one does not count by p", x.total(0, 1), 600);
        Check.same("24: but ranks", x.rank(0, 1), 1);
        Check.same("24: the other one", x.rank(0, 0), 2);
    }

    private static void needs() {
        Prioritywave x = heatOf(3);
        ride(x, 0, 0, 700, false);
        ride(x, 1, 0, 500, false);
        ride(x, 0, 5, 600, false);
        Check.same("26: 500 and 800 are more at best", x.need(0, 1, 1), 800);
        ride(x, 1, 5, 400, false);
        Check.same("26: still", x.need(0, 1, 1), 800);
        Check.same("26: for the rank that this one has", x.need(0, 1, 2), 0);
        Check.same("26: for a worse one", x.need(0, 1, 3), 0);
        Check.refuses("26: none does", ELEMENT, () -> x.need(0, 2, 1));
        Check.same("26: alike in sum, the better best one", x.need(0, 2, 2), 900);
        ride(x, 2, 10, 300, false);
        Check.same("26: alike in sum, the better best one", x.need(0, 2, 2), 600);
        Check.same("26: 1300 at best, by the better best one", x.need(0, 2, 1), 1000);
        Check.same("26: who is first", x.need(0, 0, 1), 0);
    }

    private static void needOfHalf() {
        Prioritywave x = heatOf(3);
        ride(x, 1, 0, 600, false);
        ride(x, 0, 0, 400, true);
        Check.same("23: by n", x.hindered(0, 0, 'n'), 1);
        Check.same("26: 400 and half of 400, or the better best one", x.need(0, 0, 1), 401);
    }

    private static void needOfBest() {
        Prioritywave x = heatOf(3);
        x.suspend(0, 0, 0);
        x.suspend(0, 1, 0);
        ride(x, 0, 0, 600, false);
        ride(x, 1, 0, 500, true);
        Check.same("26: alike at 600, then the second best one, more", x.need(0, 1, 1), 600);
        ride(x, 0, 5, 300, false);
        Check.same("26: only the best one", x.need(0, 1, 1), 900);
        ride(x, 0, 10, 500, false);
        Check.refuses("26: none does", ELEMENT, () -> x.need(0, 1, 1));
    }

    private static void needBounds() {
        Prioritywave x = heatOf(2);
        Check.same("26: as told, ahead", x.need(0, 0, 1), 0);
        Check.same("26: as told, behind", x.need(0, 1, 1), 1);
        Check.same("26: a rank behind all", x.need(0, 1, 3), 0);
        Check.same("26: a rank far behind all", x.need(0, 1, Integer.MAX_VALUE), 0);
        Check.refuses("26: rank 0", ELEMENT, () -> x.need(0, 0, 0));
        Check.refuses("26: rank -1", ELEMENT, () -> x.need(0, 0, Integer.MIN_VALUE));
        ride(x, 0, 0, 1000, false);
        Check.refuses("26: 1000 is alike, but told behind", ELEMENT, () -> x.need(0, 1, 1));
        ride(x, 0, 5, 1000, false);
        ride(x, 1, 5, 1000, false);
        Check.refuses("26: alike at best", ELEMENT, () -> x.need(0, 1, 1));
        Check.same("26: nothing changed", x.acts(0), 3);
    }

    private static void refusals() {
        Prioritywave x = HeatTest.withSurfers(3);
        Check.refuses("22: no heat", INDEX, () -> x.total(0, 0));
        Check.refuses("24: no heat", INDEX, () -> x.rank(0, 0));
        Check.refuses("25: no heat", INDEX, () -> x.ranked(0, 1));
        Check.refuses("26: no heat", INDEX, () -> x.need(0, 0, 1));
        x.heat(0, 0, 60, 3);
        Check.refuses("22: no surfer 3", INDEX, () -> x.total(0, 3));
        Check.refuses("22: not of the heat", ELEMENT, () -> x.total(0, 2));
        Check.refuses("22: no heat -1", INDEX, () -> x.total(-1, 2));
        Check.refuses("24: no surfer -1", INDEX, () -> x.rank(0, -1));
        Check.refuses("24: not of the heat", ELEMENT, () -> x.rank(0, 2));
        Check.refuses("24: no heat 1", INDEX, () -> x.rank(1, 2));
        Check.refuses("25: no heat 1", INDEX, () -> x.ranked(1, 9));
        Check.refuses("25: rank 0", ELEMENT, () -> x.ranked(0, 0));
        Check.refuses("25: rank 3 of two", ELEMENT, () -> x.ranked(0, 3));
        Check.refuses("26: no heat 1", INDEX, () -> x.need(1, 0, 1));
        Check.refuses("26: no surfer 3", INDEX, () -> x.need(0, 3, 0));
        Check.refuses("26: not in the heat goes ahead of no rank", SUPPORT, () -> x.need(0, 2, 0));
        x.leave(0, 1, 0);
        Check.refuses("26: has left", SUPPORT, () -> x.need(0, 1, 2));
        x.close(0);
        Check.refuses("26: closed", SUPPORT, () -> x.need(0, 0, 1));
        Check.same("24: a closed heat has ranks", x.rank(0, 1), 2);
    }
}
