/**
 * "The right to the next wave is a row ..", "Rides ..", "Interference ..": every way in which few surfers can begin a
 * heat, act by act, beside the model; so each border between one row and another is crossed in each direction.
 */
final class SmallWorldTest {
    private static final int KINDS = 6;

    private final Prioritywave program = RangeTest.everyMinute(4);
    private final Model model = new Model();
    private final int surfers;
    private int minute;

    private SmallWorldTest(int surfers) {
        this.surfers = surfers;
        for (int i = 0; i < 5; i++) {
            model.swell(100, 5, 0, 0, 99999);
        }
        model.bank(0, 100, 0, 400);
        for (int i = 0; i < 7; i++) {
            model.mark(500);
        }
        for (int i = 0; i < 4; i++) {
            model.surfer(0);
        }
        program.heat(0, 0, 60, (1 << surfers) - 1);
        model.heat(0, 0, 60, (1 << surfers) - 1);
    }

    static void run() {
        every(2, 4);
        every(3, 4);
        every(4, 3);
    }

    /** Each sequence of so many acts of so many surfers, told as a number whose digits are the acts. */
    private static void every(int surfers, int acts) {
        int base = KINDS * surfers;
        int count = 1;
        for (int i = 0; i < acts; i++) {
            count *= base;
        }
        int wrong = 0;
        for (int sequence = 0; sequence < count && wrong < 3; sequence++) {
            SmallWorldTest world = new SmallWorldTest(surfers);
            StringBuilder told = new StringBuilder();
            boolean isSame = true;
            int rest = sequence;
            for (int i = 0; i < acts && isSame; i++) {
                isSame = world.act(rest % base, told);
                rest /= base;
            }
            if (!isSame || !world.isSame()) {
                wrong++;
                Check.tell(false, "12: acts of " + surfers + ":" + told, "otherwise", "as the model");
            }
        }
        Check.same("9: every " + acts + " acts of " + surfers + " as the model", wrong, 0);
    }

    private boolean act(int act, StringBuilder told) {
        int surfer = act / KINDS;
        int kind = act % KINDS;
        minute += kind == 0 ? 1 : 0;
        String got = answer(() -> onProgram(kind, surfer));
        String due = answer(() -> onModel(kind, surfer));
        told.append(' ').append("rhmbsl".charAt(kind)).append(surfer).append('=').append(got);
        return got.equals(due);
    }

    private int onProgram(int kind, int surfer) {
        switch (kind) {
            case 0: return program.ride(0, surfer, minute, 0, false);
            case 1: return program.ride(0, surfer, minute, 1, true);
            case 2: return program.miss(0, surfer, minute);
            case 3: return program.block(0, surfer, minute);
            case 4: return program.suspend(0, surfer, minute);
            default: return program.leave(0, surfer, minute);
        }
    }

    private int onModel(int kind, int surfer) {
        switch (kind) {
            case 0: return model.ride(0, surfer, minute, 0, false);
            case 1: return model.ride(0, surfer, minute, 1, true);
            case 2: return model.miss(0, surfer, minute);
            case 3: return model.block(0, surfer, minute);
            case 4: return model.suspend(0, surfer, minute);
            default: return model.leave(0, surfer, minute);
        }
    }

    private static String answer(java.util.function.IntSupplier call) {
        try {
            return String.valueOf(call.getAsInt());
        } catch (RuntimeException thrown) {
            return thrown.getClass().getSimpleName();
        }
    }

    private boolean isSame() {
        boolean isSame = program.checksum() == model.checksum() && program.acts(0) == model.acts(0)
                && answer(() -> program.first(0)).equals(answer(() -> model.first(0))) && program.isSound();
        for (int surfer = 0; surfer < surfers; surfer++) {
            isSame &= program.hindered(0, surfer, 'p') == model.hindered(0, surfer, 'p')
                    && program.hindered(0, surfer, 'n') == model.hindered(0, surfer, 'n')
                    && program.rank(0, surfer) == model.rank(0, surfer);
        }
        return isSame;
    }
}
