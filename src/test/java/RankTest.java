import java.util.NoSuchElementException;

/** Promises 22 and 24 to 26: what counts, the ranks, and what is needed for them. */
final class RankTest {
    private static final Class<IndexOutOfBoundsException> INDEX = IndexOutOfBoundsException.class;
    private static final Class<UnsupportedOperationException> SUPPORT = UnsupportedOperationException.class;
    private static final Class<NoSuchElementException> ELEMENT = NoSuchElementException.class;

    private RankTest() {
    }

    static void run() {
        totals();
        totalByN();
        totalByP();
        totalByTwo();
        ranksBySum();
        ranksByBest();
        ranksBySecond();
        needs();
        needOfHalf();
        needOfBest();
        needBounds();
        refusals();
        needsRidden();
        secondBest();
        halves();
        kindsOfInterference();
        everyOrder();
        ranksOfWhoIsGone();
    }

    /** Types five alike marks and tells a ride with them. */
    static void ride(Prioritywave x, int surfer, int minute, int score, boolean isHindering) {
        x.wipe();
        for (int i = 0; i < 5; i++) {
            x.mark(score);
        }
        Check.same("9: a score of five alike", x.ride(0, surfer, minute, 0, isHindering), score);
    }

    private static Prioritywave heatOf(int surfers) {
        Prioritywave x = HeatTest.withSurfers(surfers + 1);
        x.heat(0, 0, 60, (1 << surfers) - 1);
        return x;
    }

    private static void totals() {
        Prioritywave x = heatOf(3);
        Check.same("22: nothing", x.total(0, 0), 0);
        ride(x, 0, 0, 401, false);
        Check.same("22: 0 for what is missing", x.total(0, 0), 401);
        ride(x, 0, 5, 300, false);
        Check.same("22: the two best", x.total(0, 0), 701);
        ride(x, 0, 10, 350, false);
        Check.same("22: a better second one", x.total(0, 0), 751);
        ride(x, 0, 15, 900, false);
        Check.same("22: a better best one", x.total(0, 0), 1301);
        ride(x, 0, 20, 100, false);
        Check.same("22: a low one does not count", x.total(0, 0), 1301);
    }

    private static void totalByN() {
        Prioritywave x = heatOf(3);
        ride(x, 1, 0, 600, false);
        ride(x, 0, 0, 501, true);
        Check.same("23: by n", x.hindered(0, 0, 'n'), 1);
        Check.same("22: the best one counts whole", x.total(0, 0), 501);
        ride(x, 0, 5, 333, false);
        Check.same("22: the second one counts half, cut", x.total(0, 0), 501 + 166);
        ride(x, 0, 10, 900, false);
        Check.same("22: that of the ride that hindered too", x.total(0, 0), 900 + 250);
        Check.same("22: the other one's whole", x.total(0, 1), 600);
    }

    private static void totalByP() {
        Prioritywave x = heatOf(3);
        x.suspend(0, 0, 0);
        x.suspend(0, 1, 0);
        ride(x, 0, 0, 400, false);
        ride(x, 1, 0, 700, true);
        Check.same("23: by p", x.hindered(0, 1, 'p'), 1);
        ride(x, 1, 5, 600, false);
        Check.same("22: only the best one", x.total(0, 1), 700);
        ride(x, 1, 10, 800, false);
        Check.same("22: only the best one now", x.total(0, 1), 800);
    }

    private static void totalByTwo() {
        Prioritywave x = heatOf(4);
        ride(x, 0, 0, 100, false);
        ride(x, 1, 0, 301, true);
        ride(x, 1, 5, 501, false);
        Check.same("22: by n half of the second one", x.total(0, 1), 501 + 150);
        ride(x, 2, 5, 100, true);
        Check.same("23: by n and by p", x.hindered(0, 1, 'n') + 10 * x.hindered(0, 1, 'p'), 11);
        Check.same("22: by p only the best one", x.total(0, 1), 501);
    }

    private static void ranksBySum() {
        Prioritywave x = heatOf(3);
        Check.same("24: nobody rode, as told", x.rank(0, 0), 1);
        Check.same("24: nobody rode, the last one", x.rank(0, 2), 3);
        ride(x, 2, 0, 300, false);
        ride(x, 1, 0, 500, false);
        ride(x, 2, 5, 250, false);
        Check.same("24: more in sum", x.rank(0, 2), 1);
        Check.same("24: less in sum", x.rank(0, 1), 2);
        Check.same("24: nothing", x.rank(0, 0), 3);
        Check.same("25: rank 1", x.ranked(0, 1), 2);
        Check.same("25: rank 2", x.ranked(0, 2), 1);
        Check.same("25: rank 3", x.ranked(0, 3), 0);
        x.leave(0, 2, 5);
        Check.same("24: one who has left is ranked", x.rank(0, 2), 1);
    }

    private static void ranksByBest() {
        Prioritywave x = heatOf(3);
        ride(x, 0, 0, 400, false);
        ride(x, 1, 0, 500, false);
        ride(x, 0, 5, 400, false);
        ride(x, 1, 5, 300, false);
        Check.same("24: alike in sum, the better best score", x.rank(0, 1), 1);
        Check.same("24: the other one", x.rank(0, 0), 2);
        ride(x, 2, 10, 500, false);
        ride(x, 2, 15, 300, false);
        Check.same("24: alike in all, as told", x.rank(0, 1), 1);
        Check.same("24: then the one told behind", x.rank(0, 2), 2);
    }

    private static void ranksBySecond() {
        Prioritywave x = heatOf(3);
        x.suspend(0, 0, 0);
        x.suspend(0, 1, 0);
        ride(x, 0, 0, 600, false);
        ride(x, 1, 0, 600, true);
        Check.same("24: alike, as told", x.rank(0, 0), 1);
        ride(x, 1, 5, 200, false);
        Check.same("22: the second one does not count by p", x.total(0, 1), 600);
        Check.same("24: but ranks", x.rank(0, 1), 1);
        Check.same("24: the other one", x.rank(0, 0), 2);
    }

    private static void needs() {
        Prioritywave x = heatOf(3);
        ride(x, 0, 0, 700, false);
        ride(x, 1, 0, 500, false);
        ride(x, 0, 5, 600, false);
        Check.same("26: 500 and 800 are more at best", x.need(0, 1, 1), 800);
        ride(x, 1, 5, 400, false);
        Check.same("26: still", x.need(0, 1, 1), 800);
        Check.same("26: for the rank that this one has", x.need(0, 1, 2), 0);
        Check.same("26: for a worse one", x.need(0, 1, 3), 0);
        Check.refuses("26: none does", ELEMENT, x, () -> x.need(0, 2, 1));
        Check.same("26: alike in sum, the better best one", x.need(0, 2, 2), 900);
        ride(x, 2, 10, 300, false);
        Check.same("26: alike in sum, the better best one", x.need(0, 2, 2), 600);
        Check.same("26: 1300 at best, by the better best one", x.need(0, 2, 1), 1000);
        Check.same("26: who is first", x.need(0, 0, 1), 0);
    }

    private static void needOfHalf() {
        Prioritywave x = heatOf(3);
        ride(x, 1, 0, 600, false);
        ride(x, 0, 0, 400, true);
        Check.same("23: by n", x.hindered(0, 0, 'n'), 1);
        Check.same("26: 400 and half of 400, or the better best one", x.need(0, 0, 1), 401);
    }

    private static void needOfBest() {
        Prioritywave x = heatOf(3);
        x.suspend(0, 0, 0);
        x.suspend(0, 1, 0);
        ride(x, 0, 0, 600, false);
        ride(x, 1, 0, 500, true);
        Check.same("26: alike at 600, then the second best one, more", x.need(0, 1, 1), 600);
        ride(x, 0, 5, 300, false);
        Check.same("26: only the best one", x.need(0, 1, 1), 900);
        ride(x, 0, 10, 500, false);
        Check.refuses("26: none does", ELEMENT, x, () -> x.need(0, 1, 1));
    }

    private static void needBounds() {
        Prioritywave x = heatOf(2);
        Check.same("26: as told, ahead", x.need(0, 0, 1), 0);
        Check.same("26: as told, behind", x.need(0, 1, 1), 1);
        Check.same("26: a rank behind all", x.need(0, 1, 3), 0);
        Check.same("26: a rank far behind all", x.need(0, 1, Integer.MAX_VALUE), 0);
        Check.refuses("26: rank 0", ELEMENT, x, () -> x.need(0, 0, 0));
        Check.refuses("26: rank -1", ELEMENT, x, () -> x.need(0, 0, Integer.MIN_VALUE));
        ride(x, 0, 0, 1000, false);
        Check.refuses("26: 1000 is alike, but told behind", ELEMENT, x, () -> x.need(0, 1, 1));
        ride(x, 0, 5, 1000, false);
        ride(x, 1, 5, 1000, false);
        Check.refuses("26: alike at best", ELEMENT, x, () -> x.need(0, 1, 1));
        Check.same("26: nothing changed", x.acts(0), 3);
    }

    private static void refusals() {
        Prioritywave x = HeatTest.withSurfers(3);
        Check.refuses("22: no heat", INDEX, x, () -> x.total(0, 0));
        Check.refuses("24: no heat", INDEX, x, () -> x.rank(0, 0));
        Check.refuses("25: no heat", INDEX, x, () -> x.ranked(0, 1));
        Check.refuses("26: no heat", INDEX, x, () -> x.need(0, 0, 1));
        x.heat(0, 0, 60, 3);
        Check.refuses("22: no surfer 3", INDEX, x, () -> x.total(0, 3));
        Check.refuses("22: not of the heat", ELEMENT, x, () -> x.total(0, 2));
        Check.refuses("22: no heat -1", INDEX, x, () -> x.total(-1, 2));
        Check.refuses("24: no surfer -1", INDEX, x, () -> x.rank(0, -1));
        Check.refuses("24: not of the heat", ELEMENT, x, () -> x.rank(0, 2));
        Check.refuses("24: no heat 1", INDEX, x, () -> x.rank(1, 2));
        Check.refuses("25: no heat 1", INDEX, x, () -> x.ranked(1, 9));
        Check.refuses("25: rank 0", ELEMENT, x, () -> x.ranked(0, 0));
        Check.refuses("25: rank 3 of two", ELEMENT, x, () -> x.ranked(0, 3));
        Check.refuses("26: no heat 1", INDEX, x, () -> x.need(1, 0, 1));
        Check.refuses("26: no surfer 3", INDEX, x, () -> x.need(0, 3, 0));
        Check.refuses("26: not in the heat goes ahead of no rank", SUPPORT, x, () -> x.need(0, 2, 0));
        x.leave(0, 1, 0);
        Check.refuses("26: has left", SUPPORT, x, () -> x.need(0, 1, 2));
        x.close(0);
        Check.refuses("26: closed", SUPPORT, x, () -> x.need(0, 0, 1));
        Check.same("24: a closed heat has ranks", x.rank(0, 1), 2);
    }

    /** A heat of four as it stands when so many of its rides were told. */
    private interface Heat {
        void tell(Prioritywave x);
    }

    private static Prioritywave told(Heat heat) {
        Prioritywave x = RangeTest.everyMinute(4);
        x.heat(0, 0, 60, 15);
        heat.tell(x);
        return x;
    }

    /**
     * "the least score, 0 to 1000, of one more ride by which this one would be of that rank or a better one; none if
     * there is no such one": the ride is told with that score, with 1 less, and with 1000 where there is none.
     */
    private static void needsRidden() {
        Heat[] heats = {
            x -> { },
            x -> ride(x, 0, 0, 1000, false),
            x -> ride(x, 3, 0, 1, false),
            x -> {
                ride(x, 0, 0, 500, false);
                ride(x, 0, 1, 100, false);
                ride(x, 1, 1, 400, false);
                ride(x, 1, 2, 200, false);
                ride(x, 2, 2, 300, false);
                ride(x, 2, 3, 300, false);
            },
            x -> {
                ride(x, 0, 0, 1000, false);
                ride(x, 0, 1, 1000, false);
                ride(x, 1, 1, 1000, false);
                ride(x, 1, 2, 999, false);
                ride(x, 2, 2, 998, false);
            },
            x -> {
                ride(x, 1, 0, 601, false);
                ride(x, 0, 0, 400, true);
                ride(x, 0, 1, 151, false);
                ride(x, 2, 1, 475, false);
                ride(x, 3, 2, 476, false);
            },
            x -> {
                x.suspend(0, 0, 0);
                ride(x, 1, 0, 700, false);
                ride(x, 0, 0, 650, true);
                ride(x, 0, 1, 300, false);
                ride(x, 2, 1, 650, false);
                ride(x, 3, 2, 350, false);
                ride(x, 3, 3, 350, false);
            },
            x -> {
                ride(x, 3, 0, 0, false);
                ride(x, 0, 0, 0, true);
            },
        };
        for (int kind = 0; kind < heats.length; kind++) {
            for (int surfer = 0; surfer < 4; surfer++) {
                for (int rank = 1; rank <= 5; rank++) {
                    needRidden("26: heat " + kind + ", surfer " + surfer + ", rank " + rank, heats[kind], surfer, rank);
                }
            }
        }
    }

    private static void needRidden(String what, Heat heat, int surfer, int rank) {
        int needed = 1001;
        try {
            needed = told(heat).need(0, surfer, rank);
        } catch (NoSuchElementException none) {
            Check.yes(what + ", 1000 does not do", rankWith(heat, surfer, 1000) > rank);
            return;
        }
        Check.yes(what + ", " + needed + " does", rankWith(heat, surfer, needed) <= rank);
        Check.yes(what + ", 1 less does not", needed == 0 || rankWith(heat, surfer, needed - 1) > rank);
    }

    private static int rankWith(Heat heat, int surfer, int score) {
        Prioritywave x = told(heat);
        ride(x, surfer, 9, score, false);
        return x.rank(0, surfer);
    }

    /** "then by the second best": the score itself, of all kinds, and more first. */
    private static void secondBest() {
        Prioritywave x = heatOf(3);
        ride(x, 1, 0, 600, false);
        ride(x, 0, 0, 600, true);
        Check.same("24: alike, as told", x.rank(0, 0), 1);
        ride(x, 1, 5, 0, false);
        Check.same("24: a second best of 0 is none", x.rank(0, 0), 1);
        ride(x, 0, 5, 1, false);
        Check.same("22: half of 1, cut", x.total(0, 0), 600);
        ride(x, 1, 10, 0, false);
        Check.same("24: alike in sum and best, the better second one", x.rank(0, 0), 1);

        Prioritywave y = heatOf(3);
        ride(y, 0, 0, 600, false);
        ride(y, 1, 0, 600, true);
        ride(y, 1, 5, 1, false);
        Check.same("22: half of 1, cut", y.total(0, 1), 600);
        Check.same("24: the better second one, told behind", y.rank(0, 1), 1);
    }

    /** "by an 'n', or two, without a 'p', the second best one counts half, cut": from 0 to 3 and 999, 1000. */
    private static void halves() {
        int[][] due = {{0, 0}, {1, 0}, {2, 1}, {3, 1}, {999, 499}, {1000, 500}};
        for (int[] one : due) {
            Prioritywave x = heatOf(3);
            ride(x, 1, 0, 0, false);
            ride(x, 0, 0, 1000, true);
            Check.same("22: 0 for what is missing", x.total(0, 0), 1000);
            ride(x, 0, 5, one[0], false);
            Check.same("22: half of " + one[0], x.total(0, 0), 1000 + one[1]);
        }
    }

    /** Without interference, by 'n', by 'p', by both, and by two of 'p': the second best one whole, half or not. */
    private static void kindsOfInterference() {
        Heat alike = x -> {
            ride(x, 0, 0, 5, false);
            ride(x, 3, 0, 800, true);
        };
        Heat behind = x -> {
            x.suspend(0, 3, 0);
            ride(x, 0, 0, 5, false);
            ride(x, 3, 0, 800, true);
        };
        Heat again = x -> {
            ride(x, 0, 2, 5, false);
            ride(x, 3, 2, 7, true);
        };
        kinds("neither", 0, 0, 1400, x -> ride(x, 3, 0, 800, false), x -> { });
        kinds("by n", 0, 1, 1100, alike, x -> { });
        kinds("by p", 1, 0, 800, behind, x -> { });
        kinds("by n, then by p", 1, 1, 800, alike, again);
        kinds("by two of p", 2, 0, 800, behind, again);
    }

    private static void kinds(String what, int p, int n, int total, Heat first, Heat then) {
        Prioritywave x = told(first);
        ride(x, 3, 1, 600, false);
        then.tell(x);
        Check.same("23: p, " + what, x.hindered(0, 3, 'p'), p);
        Check.same("23: n, " + what, x.hindered(0, 3, 'n'), n);
        Check.same("22: counts " + what, x.total(0, 3), total);
        Check.same("21: the best score stays " + what, x.score(0, 3, 0), 800);
        Check.same("21: the second one stays " + what, x.score(0, 3, 1), 600);
    }

    /** "by what they count in sum, then by their best score, .. then by the order in which they were told". */
    private static void everyOrder() {
        int[][] scores = {{500, 400}, {600, 299}, {450, 450}, {500, 399}};
        // 900 by 500, then 900 by 450, then 899 by 600, then 899 by 500.
        int[] ranks = {1, 3, 2, 4};
        for (int order = 0; order < 256; order++) {
            int[] who = {order % 4, order / 4 % 4, order / 16 % 4, order / 64};
            Prioritywave x = RangeTest.everyMinute(4);
            x.heat(0, 0, 60, 15);
            for (int surfer = 0; surfer < 4; surfer++) {
                ride(x, surfer, 2 * surfer, scores[who[surfer]][surfer % 2], false);
                ride(x, surfer, 2 * surfer + 1, scores[who[surfer]][1 - surfer % 2], false);
            }
            for (int surfer = 0; surfer < 4; surfer++) {
                int due = 1;
                for (int other = 0; other < 4; other++) {
                    boolean isAlike = who[other] == who[surfer];
                    due += isAlike && other < surfer || !isAlike && ranks[who[other]] < ranks[who[surfer]] ? 1 : 0;
                }
                Check.same("24: rank of " + surfer + " in the order " + order, x.rank(0, surfer), due);
                Check.same("25: who is of the rank " + due, x.ranked(0, due), surfer);
            }
        }
    }

    /** "One who is sent out, or who has left, is in no row any more": but scores stay, and so do ranks. */
    private static void ranksOfWhoIsGone() {
        Prioritywave x = told(y -> {
            ride(y, 0, 0, 100, false);
            ride(y, 3, 0, 900, true);
            ride(y, 0, 1, 100, false);
            ride(y, 3, 1, 900, true);
            ride(y, 2, 2, 800, false);
            y.leave(0, 2, 2);
        });
        Check.same("19: one is out, one has left", x.place(0, 3) + x.place(0, 2), -4);
        Check.same("24: who is out is first", x.rank(0, 3), 1);
        Check.same("24: who has left is second", x.rank(0, 2), 2);
        Check.same("26: it takes more than these", x.need(0, 1, 1), 901);
        Check.same("25: rank 1", x.ranked(0, 1), 3);
        Check.same("17: who is first", x.close(0), 3);
    }
}
