import java.util.NoSuchElementException;

/** Promises 9, 12 to 15, 19 and 20: the row of those who have the right to the next wave. */
final class RightTest {
    private static final Class<IndexOutOfBoundsException> INDEX = IndexOutOfBoundsException.class;
    private static final Class<UnsupportedOperationException> SUPPORT = UnsupportedOperationException.class;
    private static final Class<NoSuchElementException> ELEMENT = NoSuchElementException.class;

    private RightTest() {
    }

    static void run() {
        ridesMakeTheRow();
        twoSurfers();
        fourSurfers();
        missesAndBlocks();
        missAtFirst();
        suspensions();
        leavers();
        lastOneLeft();
        missRefusals();
        blockRefusals();
        suspendRefusals();
        leaveRefusals();
        placeAndFirstRefusals();
        goneAreNotCounted();
        putAheadByEachAct();
        missesOfEachPlace();
    }

    /** The places of all surfers of a heat, as digits in the order told; n for who is not in the row, x for gone. */
    static String places(Prioritywave x, int heat, int surfers) {
        StringBuilder places = new StringBuilder();
        for (int index = 0; index < surfers; index++) {
            int place = x.place(heat, x.surferAt(heat, index));
            places.append(place == -1 ? "n" : place == -2 ? "x" : String.valueOf(place));
        }
        return places.toString();
    }

    static void row(String what, Prioritywave x, int surfers, String due) {
        String got = places(x, 0, surfers);
        Check.tell(got.equals(due), what, got, due);
    }

    private static void ridesMakeTheRow() {
        Prioritywave x = HeatTest.withSurfers(3);
        x.heat(0, 0, 60, 7);
        row("19: nobody is in it", x, 3, "nnn");
        Check.refuses("20: all are alike", ELEMENT, x, () -> x.first(0));
        x.ride(0, 1, 0, 0, false);
        row("9: the first ride", x, 3, "n0n");
        Check.refuses("20: two are alike", ELEMENT, x, () -> x.first(0));
        x.ride(0, 1, 5, 0, false);
        row("9: again the same", x, 3, "n0n");
        x.ride(0, 2, 10, 0, false);
        row("9: only one is not in it", x, 3, "012");
        Check.same("20: this one has the right", x.first(0), 0);
        x.ride(0, 1, 15, 0, false);
        row("9: from the middle to the end", x, 3, "021");
        x.ride(0, 0, 20, 0, false);
        row("9: from the head to the end", x, 3, "210");
        x.ride(0, 0, 25, 0, false);
        row("9: from the end to the end", x, 3, "210");
        Check.same("20: who is first", x.first(0), 2);
    }

    private static void twoSurfers() {
        Prioritywave x = HeatTest.withSurfers(2);
        x.heat(0, 0, 60, 3);
        row("19: nobody is in it", x, 2, "nn");
        x.ride(0, 0, 0, 0, false);
        row("9: the other one is put ahead", x, 2, "10");
        x.ride(0, 1, 0, 0, false);
        row("9: and rides", x, 2, "01");
    }

    private static void fourSurfers() {
        Prioritywave x = HeatTest.withSurfers(4);
        x.heat(0, 0, 60, 15);
        x.ride(0, 3, 0, 0, false);
        row("9: one of four", x, 4, "nnn0");
        x.ride(0, 0, 0, 0, false);
        row("9: two of four", x, 4, "1nn0");
        x.ride(0, 3, 5, 0, false);
        row("9: one of them again", x, 4, "0nn1");
        x.ride(0, 1, 5, 0, false);
        row("9: the fourth one is put ahead", x, 4, "1302");
        Check.same("20: who is first", x.first(0), 2);
    }

    private static void missesAndBlocks() {
        Prioritywave x = HeatTest.withSurfers(3);
        x.heat(0, 0, 60, 7);
        x.suspend(0, 0, 0);
        x.suspend(0, 1, 0);
        row("14: two suspended", x, 3, "120");
        Check.same("12: the second one's miss changes nothing", x.miss(0, 0, 0), 1);
        Check.same("13: nor does the third one's block", x.block(0, 1, 0), 2);
        row("12: nothing changed", x, 3, "120");
        Check.same("12: the first one's miss", x.miss(0, 2, 0), 2);
        row("12: to the end", x, 3, "012");
        Check.same("13: the first one's block", x.block(0, 0, 1), 2);
        row("13: to the end", x, 3, "201");
    }

    private static void missAtFirst() {
        Prioritywave x = HeatTest.withSurfers(3);
        x.heat(0, 0, 60, 7);
        Check.same("12: nobody is in the row", x.miss(0, 0, 0), -1);
        Check.same("13: nobody is in the row", x.block(0, 0, 0), -1);
        x.ride(0, 0, 0, 0, false);
        Check.same("12: the first one, but not all are in", x.miss(0, 0, 0), 0);
        Check.same("13: the first one, but not all are in", x.block(0, 0, 0), 0);
        Check.same("12: one who is not in it", x.miss(0, 1, 0), -1);
        row("12: nothing changed", x, 3, "0nn");
        Check.same("27: they are acts", x.acts(0), 6);
        Check.refuses("12: the minute of the act before", SUPPORT, x, () -> x.miss(0, 0, -5));
    }

    private static void suspensions() {
        Prioritywave x = HeatTest.withSurfers(4);
        x.heat(0, 0, 60, 15);
        Check.same("14: the only one in the row", x.suspend(0, 2, 3), 0);
        row("14: whatever the row is", x, 4, "nn0n");
        Check.same("14: behind", x.suspend(0, 0, 3), 1);
        row("14: two", x, 4, "1n0n");
        Check.same("14: and the last one is put ahead", x.suspend(0, 1, 3), 3);
        row("14: all", x, 4, "2310");
        Check.same("14: from the middle", x.suspend(0, 2, 3), 3);
        row("14: to the end", x, 4, "1230");
        Check.same("14: who is last", x.suspend(0, 2, 3), 3);
        row("14: stays last", x, 4, "1230");
    }

    private static void leavers() {
        Prioritywave x = HeatTest.withSurfers(4);
        x.heat(0, 0, 60, 15);
        x.suspend(0, 0, 0);
        x.suspend(0, 1, 0);
        row("15: two are not in it", x, 4, "01nn");
        Check.same("15: three are left", x.leave(0, 3, 0), 3);
        row("15: only one is not in it", x, 4, "120x");
        Check.same("20: this one is put ahead", x.first(0), 2);
        Check.same("15: two are left", x.leave(0, 0, 0), 2);
        row("15: the row closes up", x, 4, "x10x");
        Check.same("15: one is left", x.leave(0, 2, 0), 1);
        Check.same("20: the last one", x.first(0), 1);
        Check.same("12: first of one", x.miss(0, 1, 0), 0);
        Check.same("15: nobody is left", x.leave(0, 1, 0), 0);
        row("15: all are gone", x, 4, "xxxx");
        Check.refuses("20: nobody is left", ELEMENT, x, () -> x.first(0));
        Check.same("17: but one is ranked first", x.close(0), 0);
        Check.yes("42: sound", x.isSound());
    }

    private static void lastOneLeft() {
        Prioritywave x = HeatTest.withSurfers(2);
        x.heat(0, 0, 60, 3);
        Check.same("15: one is left", x.leave(0, 0, 0), 1);
        row("15: as the only one not in it put ahead", x, 2, "x0");
        Check.same("20: the right is this one's", x.first(0), 1);
        x.ride(0, 1, 0, 0, false);
        row("9: and stays so", x, 2, "x0");
    }

    private static void missRefusals() {
        Prioritywave x = HeatTest.withSurfers(4);
        Check.refuses("12: no heat", INDEX, x, () -> x.miss(0, 0, 0));
        x.heat(0, 10, 10, 7);
        Check.refuses("12: no heat 1", INDEX, x, () -> x.miss(1, 0, 10));
        Check.refuses("12: no surfer 4", INDEX, x, () -> x.miss(0, 4, 10));
        Check.refuses("12: no surfer -1", INDEX, x, () -> x.miss(0, -1, 10));
        Check.refuses("12: not in the heat", SUPPORT, x, () -> x.miss(0, 3, 10));
        Check.refuses("12: ahead of the first minute", SUPPORT, x, () -> x.miss(0, 0, 5));
        Check.refuses("12: behind the last minute", SUPPORT, x, () -> x.miss(0, 0, 20));
        Check.refuses("12: no wave", SUPPORT, x, () -> x.miss(0, 0, 11));
        x.block(0, 0, 11);
        Check.refuses("12: ahead of the act before", SUPPORT, x, () -> x.miss(0, 0, 10));
        x.leave(0, 1, 15);
        Check.refuses("12: has left", SUPPORT, x, () -> x.miss(0, 1, 15));
        Check.same("12: the minute of the act before", x.miss(0, 0, 15), -1);
        Check.same("27: no refused act", x.acts(0), 3);
    }

    private static void blockRefusals() {
        Prioritywave x = HeatTest.withSurfers(4);
        Check.refuses("13: no heat", INDEX, x, () -> x.block(0, 0, 0));
        x.heat(0, 10, 10, 7);
        Check.refuses("13: no heat -1", INDEX, x, () -> x.block(-1, 0, 10));
        Check.refuses("13: no surfer 4", INDEX, x, () -> x.block(0, 4, 10));
        Check.refuses("13: not in the heat", SUPPORT, x, () -> x.block(0, 3, 10));
        Check.refuses("13: ahead of the first minute", SUPPORT, x, () -> x.block(0, 0, 9));
        Check.refuses("13: behind the last minute", SUPPORT, x, () -> x.block(0, 0, 20));
        Check.same("13: the last minute, without a wave", x.block(0, 0, 19), -1);
        Check.refuses("13: ahead of the act before", SUPPORT, x, () -> x.block(0, 0, 18));
        x.leave(0, 1, 19);
        Check.refuses("13: has left", SUPPORT, x, () -> x.block(0, 1, 19));
        Check.same("27: no refused act", x.acts(0), 2);
    }

    private static void suspendRefusals() {
        Prioritywave x = HeatTest.withSurfers(4);
        Check.refuses("14: no heat", INDEX, x, () -> x.suspend(0, 0, 0));
        x.heat(0, 10, 10, 7);
        Check.refuses("14: no surfer 4", INDEX, x, () -> x.suspend(0, 4, 10));
        Check.refuses("14: no surfer -1", INDEX, x, () -> x.suspend(0, -1, 10));
        Check.refuses("14: not in the heat", SUPPORT, x, () -> x.suspend(0, 3, 10));
        Check.refuses("14: ahead of the first minute", SUPPORT, x, () -> x.suspend(0, 0, 9));
        Check.refuses("14: behind the last minute", SUPPORT, x, () -> x.suspend(0, 0, 20));
        row("14: refused ones change nothing", x, 3, "nnn");
        Check.same("14: the last minute", x.suspend(0, 0, 19), 0);
        Check.refuses("14: ahead of the act before", SUPPORT, x, () -> x.suspend(0, 1, 18));
        x.leave(0, 1, 19);
        Check.refuses("14: has left", SUPPORT, x, () -> x.suspend(0, 1, 19));
        Check.same("27: no refused act", x.acts(0), 2);
    }

    private static void leaveRefusals() {
        Prioritywave x = HeatTest.withSurfers(4);
        Check.refuses("15: no heat", INDEX, x, () -> x.leave(0, 0, 0));
        x.heat(0, 10, 10, 7);
        Check.refuses("15: no surfer 4", INDEX, x, () -> x.leave(0, 4, 10));
        Check.refuses("15: not in the heat", SUPPORT, x, () -> x.leave(0, 3, 10));
        Check.refuses("15: ahead of the first minute", SUPPORT, x, () -> x.leave(0, 0, 9));
        Check.refuses("15: behind the last minute", SUPPORT, x, () -> x.leave(0, 0, 20));
        Check.same("15: the last minute", x.leave(0, 0, 19), 2);
        Check.refuses("15: has left", SUPPORT, x, () -> x.leave(0, 0, 19));
        Check.refuses("15: ahead of the act before", SUPPORT, x, () -> x.leave(0, 1, 18));
        row("15: refused ones change nothing", x, 3, "xnn");
        Check.same("27: no refused act", x.acts(0), 1);
    }

    private static void placeAndFirstRefusals() {
        Prioritywave x = HeatTest.withSurfers(3);
        Check.refuses("19: no heat", INDEX, x, () -> x.place(0, 0));
        Check.refuses("20: no heat", INDEX, x, () -> x.first(0));
        x.heat(0, 0, 10, 3);
        Check.refuses("19: no heat -1", INDEX, x, () -> x.place(-1, 0));
        Check.refuses("19: no surfer 3", INDEX, x, () -> x.place(0, 3));
        Check.refuses("19: no surfer -1", INDEX, x, () -> x.place(0, -1));
        Check.refuses("19: not of the heat", ELEMENT, x, () -> x.place(0, 2));
        Check.refuses("20: no heat 1", INDEX, x, () -> x.first(1));
        Check.refuses("20: no heat -1", INDEX, x, () -> x.first(-1));
    }

    /** "is in no row any more, and does not count as one who is not in it". */
    private static void goneAreNotCounted() {
        Prioritywave x = RangeTest.everyMinute(3);
        x.heat(0, 0, 60, 7);
        x.suspend(0, 0, 0);
        x.leave(0, 2, 0);
        row("15: the last one who is not in it is put ahead", x, 3, "10x");
        Check.same("12: all who are left are in it", x.miss(0, 1, 0), 1);
        row("12: so the first one goes to the end", x, 3, "01x");
        Check.same("13: the first one goes to the end", x.block(0, 0, 0), 1);
        row("13: and back", x, 3, "10x");
        Check.same("20: who has the right", x.first(0), 1);
        Check.same("15: one is left", x.leave(0, 1, 0), 1);
        row("15: the row closes up", x, 3, "0xx");
        Check.same("13: the first one and the last one", x.block(0, 0, 0), 0);
        Check.same("14: too", x.suspend(0, 0, 0), 0);
        Check.same("20: the only one", x.first(0), 0);
    }

    /** "as soon as only one is not in it, this one is put ahead of all": by a ride, by a suspension, by leaving. */
    private static void putAheadByEachAct() {
        for (int kind = 0; kind < 3; kind++) {
            Prioritywave x = RangeTest.everyMinute(4);
            x.heat(0, 0, 60, 15);
            x.suspend(0, 3, 0);
            x.suspend(0, 0, 0);
            row("14: two are not in it", x, 4, "1nn0");
            Check.refuses("20: these are alike", ELEMENT, x, () -> x.first(0));
            if (kind == 0) {
                x.ride(0, 1, 0, 0, false);
            } else if (kind == 1) {
                x.suspend(0, 1, 0);
            } else {
                x.leave(0, 1, 0);
            }
            row("19: one is not in it", x, 4, kind < 2 ? "2301" : "2x01");
            Check.same("20: this one", x.first(0), 2);
        }
        for (int kind = 0; kind < 2; kind++) {
            Prioritywave x = RangeTest.everyMinute(4);
            x.heat(0, 0, 60, 15);
            x.suspend(0, 3, 0);
            x.suspend(0, 0, 0);
            Check.same("12: not in it, nothing changes", kind == 0 ? x.miss(0, 1, 0) : x.block(0, 1, 0), -1);
            Check.same("13: first in it, but not all are", kind == 0 ? x.block(0, 3, 0) : x.miss(0, 3, 0), 0);
            row("12: two are not in it", x, 4, "1nn0");
        }
    }

    /** "of a surfer who is the first one of the row, all being in it; otherwise both change nothing": each place. */
    private static void missesOfEachPlace() {
        for (int surfers = 2; surfers <= 4; surfers++) {
            for (int place = 0; place < surfers; place++) {
                for (int kind = 0; kind < 2; kind++) {
                    Prioritywave x = RangeTest.everyMinute(4);
                    x.heat(0, 0, 60, (1 << surfers) - 1);
                    for (int surfer = 1; surfer < surfers; surfer++) {
                        x.suspend(0, surfer, 0);
                    }
                    row("14: the row", x, surfers, "0123".substring(0, surfers));
                    int due = place == 0 ? surfers - 1 : place;
                    Check.same("12: the place then", kind == 0 ? x.miss(0, place, 0) : x.block(0, place, 0), due);
                    String before = "0123".substring(0, surfers);
                    String behind = (surfers - 1) + "012".substring(0, surfers - 1);
                    row("13: the row then", x, surfers, place == 0 ? behind : before);
                }
            }
        }
    }
}
