import java.util.function.Supplier;

/**
 * "UnsupportedOperationException if the heat is closed, the surfer is not in it, is out, or has left, or the minute
 * does not fit, ..": each act for each of these reasons, beside an object without the reason, where the act is taken.
 */
final class RefusalTest {
    private static final Class<UnsupportedOperationException> SUPPORT = UnsupportedOperationException.class;
    private static final String[] NAMES = {"9: ride", "12: miss", "13: block", "14: suspend", "15: leave"};
    private static final int RIDE = 0;
    private static final int MISS = 1;

    private RefusalTest() {
    }

    static void run() {
        for (int kind = 0; kind < NAMES.length; kind++) {
            closed(kind);
            notInTheHeat(kind);
            out(kind);
            hasLeft(kind);
            minutes(kind);
            waves(kind);
        }
        ridden();
        restarts();
        closes();
        needs();
        leftBackAgain();
    }

    private static int act(int kind, Prioritywave x, int surfer, int minute) {
        switch (kind) {
            case RIDE: return x.ride(0, surfer, minute, 0, false);
            case MISS: return x.miss(0, surfer, minute);
            case 2: return x.block(0, surfer, minute);
            case 3: return x.suspend(0, surfer, minute);
            default: return x.leave(0, surfer, minute);
        }
    }

    private static void refused(int kind, String why, Prioritywave x, int surfer, int minute) {
        int before = x.acts(0);
        Check.refuses(NAMES[kind] + ", " + why, SUPPORT, x, () -> act(kind, x, surfer, minute));
        Check.same("27: refused acts are none", x.acts(0), before);
    }

    private static void taken(int kind, String why, Prioritywave x, int surfer, int minute) {
        int before = x.acts(0);
        String got = "an answer";
        try {
            act(kind, x, surfer, minute);
        } catch (RuntimeException thrown) {
            got = "throws " + thrown;
        }
        Check.tell(got.equals("an answer"), NAMES[kind] + ", but " + why, got, "an answer");
        Check.same("27: one act more", x.acts(0), before + 1);
    }

    private static void closed(int kind) {
        taken(kind, "open", RangeTest.tenMinutes(0), 0, 105);
        Prioritywave x = RangeTest.tenMinutes(0);
        x.close(0);
        refused(kind, "closed", x, 0, 105);
        Prioritywave y = RangeTest.tenMinutes(0);
        y.heat(0, 100, 10, 7);
        y.close(1);
        taken(kind, "another heat is closed", y, 0, 105);
    }

    private static void notInTheHeat(int kind) {
        Prioritywave x = RangeTest.tenMinutes(0);
        refused(kind, "not in the heat", x, 3, 105);
        x.heat(0, 100, 10, 15);
        refused(kind, "in another heat alone", x, 3, 105);
        taken(kind, "in the heat", x, 2, 105);
    }

    /** The surfer 1 has an interference by the first pair of rides, and is out by the second pair. */
    private static Prioritywave hindered(int times) {
        Prioritywave x = RangeTest.tenMinutes(0);
        for (int i = 0; i < times; i++) {
            x.ride(0, 0, 100 + i, 0, false);
            x.ride(0, 1, 100 + i, 0, true);
        }
        return x;
    }

    private static void out(int kind) {
        taken(kind, "one interference alone", hindered(1), 1, 105);
        refused(kind, "out", hindered(2), 1, 105);
        taken(kind, "another one is out", hindered(2), 0, 105);
    }

    private static void hasLeft(int kind) {
        Prioritywave x = RangeTest.tenMinutes(0);
        x.leave(0, 1, 105);
        refused(kind, "has left", x, 1, 105);
        refused(kind, "has left a minute before", x, 1, 106);
        taken(kind, "another one has left", x, 0, 105);
    }

    private static void minutes(int kind) {
        Prioritywave x = RangeTest.tenMinutes(0);
        refused(kind, "ahead of the first minute", x, 0, 99);
        refused(kind, "behind the last minute", x, 0, 110);
        taken(kind, "the first minute", x, 0, 100);
        taken(kind, "the last minute", x, 1, 109);
        refused(kind, "ahead of the act before", x, 2, 108);
        refused(kind, "behind the last minute, that of the act before", x, 2, 110);
        taken(kind, "the minute of the act before", x, 2, 109);
    }

    /** The tide at the minute 100 is 292; a bank that works up to 291 has a wave from the minute 101 on. */
    private static void waves(int kind) {
        Prioritywave x = RangeTest.everyMinute(2);
        int tide = x.tide(100);
        x.bank(0, 100, 0, tide - 1);
        x.heat(1, 100, 10, 3);
        if (kind == RIDE || kind == MISS) {
            refused(kind, "no wave", x, 0, 100);
        } else {
            taken(kind, "no wave is asked for", x, 1, 100);
        }
        taken(kind, "a wave", x, 0, 101);

        Prioritywave y = new Prioritywave();
        y.swell(59, 5, 0, 0, 99999);
        y.swell(60, 5, 0, 0, 99999);
        y.bank(0, 50, 0, 400);
        for (int i = 0; i < 5; i++) {
            y.mark(1);
        }
        y.surfer(0);
        y.surfer(0);
        y.heat(0, 0, 10, 3);
        if (kind == RIDE || kind == MISS) {
            refused(kind, "a wave of 29 is none", y, 0, 0);
        }
        taken(kind, "a wave of 30", y, 0, 1);
    }

    private static void ridden() {
        Prioritywave x = RangeTest.tenMinutes(0);
        taken(RIDE, "nobody rode it", x, 0, 100);
        refused(RIDE, "this one rode it already", x, 0, 100);
        taken(RIDE, "another one rode it", x, 1, 100);
        refused(RIDE, "two did, this one the first", x, 0, 100);
        refused(RIDE, "two did, this one the second", x, 1, 100);
        refused(RIDE, "two did, this one not", x, 2, 100);
        taken(RIDE, "the next wave", x, 0, 101);
        x.suspend(0, 1, 101);
        refused(RIDE, "this one rode it already, ahead of another act", x, 0, 101);
        taken(RIDE, "another act between both rides", x, 2, 101);
        refused(RIDE, "two did, with another act between", x, 1, 101);
        taken(RIDE, "the wave behind", x, 1, 102);
        Check.same("9: a miss is no ride", x.miss(0, 2, 102), x.place(0, 2));
        taken(RIDE, "a missed wave can be ridden", x, 2, 102);
    }

    private static Supplier<Prioritywave> acted(int kind) {
        return () -> {
            Prioritywave x = RangeTest.tenMinutes(0);
            act(kind, x, 0, 100);
            return x;
        };
    }

    private static void restarts() {
        for (int kind = 0; kind < NAMES.length; kind++) {
            Prioritywave x = acted(kind).get();
            if (kind == RIDE) {
                Check.refuses("16: somebody rode", SUPPORT, x, () -> x.restart(0, 100));
                Check.refuses("16: somebody rode, a minute behind", SUPPORT, x, () -> x.restart(0, 101));
                x.leave(0, 0, 101);
                Check.refuses("16: somebody rode and left", SUPPORT, x, () -> x.restart(0, 101));
            } else {
                Check.yes("16: other acts are no rides", x.restart(0, 100));
                Check.same("27: all acts are gone", x.acts(0), 0);
                Check.no("16: the one before had none now", x.restart(0, 100));
            }
        }
        Prioritywave x = RangeTest.tenMinutes(0);
        x.wipe();
        for (int i = 0; i < 5; i++) {
            x.mark(0);
        }
        Check.same("9: a ride of 0", x.ride(0, 0, 100, 0, false), 0);
        Check.refuses("16: somebody rode, for a score of 0", SUPPORT, x, () -> x.restart(0, 101));
        Prioritywave y = RangeTest.tenMinutes(0);
        y.close(0);
        Check.refuses("16: closed", SUPPORT, y, () -> y.restart(0, 100));
    }

    private static void closes() {
        Prioritywave x = RangeTest.tenMinutes(0);
        x.heat(0, 0, 10, 7);
        x.close(0);
        Check.refuses("17: closed", SUPPORT, x, () -> x.close(0));
        Check.yes("18: the other one is open", x.isOpen(1));
        Check.same("17: the other one", x.close(1), 0);
        Check.refuses("17: closed too", SUPPORT, x, () -> x.close(1));
        Check.no("18: closed", x.isOpen(1));
    }

    private static void needs() {
        Prioritywave x = hindered(1);
        Check.refuses("26: not in it", SUPPORT, x, () -> x.need(0, 3, 1));
        Check.same("26: one interference alone", x.need(0, 1, 2), 0);
        Prioritywave y = hindered(2);
        Check.refuses("26: out", SUPPORT, y, () -> y.need(0, 1, 4));
        Check.same("26: another one is out", y.need(0, 0, 1), 0);
        y.leave(0, 2, 105);
        Check.refuses("26: has left", SUPPORT, y, () -> y.need(0, 2, 4));
        Check.same("26: another one has left", y.need(0, 0, 1), 0);
        y.close(0);
        Check.refuses("26: closed", SUPPORT, y, () -> y.need(0, 0, 1));
    }

    /** "all acts are gone, and what came of them, too": who had left is in the heat again. */
    private static void leftBackAgain() {
        for (int kind = 0; kind < NAMES.length; kind++) {
            Prioritywave x = RangeTest.tenMinutes(0);
            x.leave(0, 1, 100);
            x.restart(0, 100);
            taken(kind, "who had left, in the heat begun anew", x, 1, 100);
        }
    }
}
