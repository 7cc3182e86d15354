import java.lang.reflect.InvocationTargetException;
import java.lang.reflect.Method;
import java.util.HashMap;
import java.util.Map;
import java.util.Random;
import java.util.Set;
import java.util.TreeMap;

/** Tells long runs of calls to the program and to the model, and asks both for each answer. */
final class ModelTest {
    private static final int CALLS = 512;
    private static final Map<String, Method> OF_PROGRAM = methodsOf(Prioritywave.class);
    private static final Map<String, Method> OF_MODEL = methodsOf(Model.class);
    /** What changes something, if it is not refused; all else is a question. */
    private static final Set<String> CHANGES = Set.of("swell", "bank", "surfer", "heat", "ride", "mark", "wipe", "miss",
            "block", "suspend", "leave", "restart", "close", "event", "round", "drop", "cut");
    /** Which answers were seen, so that no call is tested by its refusals alone. */
    private static final Map<String, Integer> SEEN = new TreeMap<>();

    private final Random dice;
    private final int seed;
    private final Prioritywave program = new Prioritywave();
    private final Model model = new Model();
    private int calls;
    private int swells;
    private int banks;
    private int surfers;
    private int heats;
    private int events;
    private int typed;
    private int callsOfHeat = 20;
    private boolean isSame = true;

    private ModelTest(int seed) {
        this.seed = seed;
        dice = new Random(seed);
    }

    static void run(int runs) {
        for (int seed = 0; seed < runs; seed++) {
            ModelTest run = new ModelTest(seed);
            run.play();
            Check.yes("run " + seed + " as the model", run.isSame);
        }
        for (String name : OF_PROGRAM.keySet()) {
            Check.yes(name + " was answered in some run", runs < 200 || SEEN.getOrDefault(name + " ok", 0) > 0);
            for (Class<?> thrown : OF_PROGRAM.get(name).getExceptionTypes()) {
                String refusal = name + " " + thrown.getSimpleName();
                Check.yes(refusal + " was seen in some run", runs < 200 || SEEN.getOrDefault(refusal, 0) > 0);
            }
        }
        Check.yes("events ended in some run", runs < 200 || SEEN.getOrDefault("events over", 0) > 0);
        Check.yes("surfers were sent out in some run", runs < 200 || SEEN.getOrDefault("sent out", 0) > 0);
        if (Boolean.getBoolean("seen")) {
            System.out.println(SEEN);
        }
    }

    private static Map<String, Method> methodsOf(Class<?> type) {
        Map<String, Method> methods = new HashMap<>();
        for (Method method : type.getDeclaredMethods()) {
            if (java.lang.reflect.Modifier.isPublic(method.getModifiers())) {
                methods.put(method.getName(), method);
            }
        }
        return methods;
    }

    private static Object answer(Method method, Object object, Object[] arguments) {
        try {
            return method.invoke(object, arguments);
        } catch (InvocationTargetException thrown) {
            return thrown.getCause().getClass();
        } catch (IllegalAccessException wrong) {
            throw new IllegalStateException(wrong);
        }
    }

    private Object call(String name, Object... arguments) {
        if (calls >= CALLS || !isSame) {
            return null;
        }
        calls++;
        boolean isWatched = seed % 20 == 7;
        long before = isWatched ? State.of(program) : 0;
        Object got = answer(OF_PROGRAM.get(name), program, arguments);
        boolean mayChange = !(got instanceof Class) && CHANGES.contains(name);
        if (isWatched && !mayChange && State.of(program) != before) {
            isSame = false;
            System.out.println("run " + seed + ", call " + calls + ": " + name
                    + java.util.Arrays.toString(arguments) + " answered " + got + " and changed something");
        }
        Object due = answer(OF_MODEL.get(name), model, arguments);
        if (!got.equals(due)) {
            isSame = false;
            System.out.println("run " + seed + ", call " + calls + ": " + name
                    + java.util.Arrays.toString(arguments) + " answered " + got + ", the model " + due);
        }
        SEEN.merge(name + (got instanceof Class ? " " + ((Class<?>) got).getSimpleName() : " ok"), 1, Integer::sum);
        return got;
    }

    /** A number that was answered, or NONE for an exception. */
    private int number(Object answer) {
        return answer instanceof Integer ? (Integer) answer : -1;
    }

    private int upTo(int bound) {
        return bound <= 0 ? 0 : dice.nextInt(bound);
    }

    private boolean oneIn(int times) {
        return dice.nextInt(times) == 0;
    }

    private int among(int... values) {
        return values[dice.nextInt(values.length)];
    }

    private int wild() {
        return among(-1, 0, 1, 16, 40, 4, 5, 6, 99999, 100000, 99939, 99940, Integer.MAX_VALUE, Integer.MIN_VALUE,
                dice.nextInt());
    }

    /** Mostly within the range, sometimes at its edges or just outside. */
    private int inRange(int low, int high) {
        if (oneIn(25)) {
            return among(low - 1, high + 1, wild());
        }
        return oneIn(5) ? among(low, high) : low + dice.nextInt(high - low + 1);
    }

    private int oneOf(int count) {
        return oneIn(25) ? among(-1, count, wild()) : upTo(count);
    }

    private void play() {
        int profile = seed % 4;
        boolean isCalm = profile != 1;
        if (profile == 3) {
            callsOfHeat = 80;
        }
        if (oneIn(3)) {
            sums();
        }
        int rise = 1 + upTo(3);
        for (int i = 0; i < rise; i++) {
            addSwell(isCalm);
        }
        for (int i = 0; i < rise; i++) {
            addBank(isCalm);
        }
        int first = profile == 2 ? 12 + upTo(5) : 2 + upTo(6);
        for (int i = 0; i < first; i++) {
            addSurfer();
        }
        for (int i = 0; i < 7 + upTo(20); i++) {
            type();
        }
        while (calls < CALLS && isSame) {
            if (profile == 2 && oneIn(2)) {
                event();
            } else if (profile == 1 && !oneIn(3)) {
                sea();
            } else {
                mixed();
            }
        }
        SEEN.merge("events over", model.eventsOver(), Integer::sum);
        SEEN.merge("sent out", model.sentOut(), Integer::sum);
    }

    private void mixed() {
        int kind = upTo(20);
        if (heats == 0 || oneIn(callsOfHeat)) {
            addHeat();
        } else if (kind == 0) {
            type();
        } else if (kind == 1) {
            addSurfer();
        } else if (kind == 2) {
            sea();
        } else if (kind == 4) {
            tour();
        } else if (kind == 5) {
            event();
        } else if (kind == 6) {
            sums();
        } else if (kind < 9) {
            ask(upTo(heats));
        } else {
            act(oneIn(8) ? upTo(heats) : Math.max(0, heats - 1 - upTo(callsOfHeat == 80 ? 1 : 2)));
        }
    }

    private void addSwell(boolean isCalm) {
        int begin = isCalm && !oneIn(6) ? 0 : inRange(0, 99999);
        int end = isCalm && !oneIn(6) ? 99999 : inRange(0, 99999);
        int period = isCalm ? among(5, 5, 6, 7) : inRange(5, 20);
        if (number(call("swell", inRange(50, 600), period, inRange(0, 359), begin, end)) >= 0) {
            swells++;
        }
    }

    private void addBank(boolean isCalm) {
        int low = isCalm && !oneIn(4) ? 0 : inRange(0, 400);
        int high = isCalm && !oneIn(4) ? 400 : inRange(0, 400);
        if (number(call("bank", inRange(0, 359), inRange(isCalm ? 100 : 10, 200), low, high)) >= 0) {
            banks++;
        }
    }

    private void addSurfer() {
        if (number(call("surfer", oneIn(3) ? among(0, 500) : inRange(0, 99999))) >= 0) {
            surfers++;
        }
    }

    private void type() {
        if (oneIn(60)) {
            call("wipe");
            typed = 0;
        }
        if (number(call("mark", oneIn(3) ? among(0, 1000, 500) : inRange(0, 1000))) >= 0) {
            typed++;
        }
    }

    private void sea() {
        int kind = upTo(12);
        if (kind == 0) {
            addSwell(oneIn(2));
        } else if (kind == 1) {
            addBank(oneIn(2));
        } else if (kind < 4) {
            call("tide", inRange(0, 99999));
        } else if (kind < 10) {
            call("wave", oneOf(banks), oneIn(2) ? inRange(0, 99999) : upTo(3000));
        } else {
            int from = oneIn(3) ? inRange(0, 99999) : upTo(5000);
            int length = oneIn(3) ? inRange(0, 2000) : upTo(60);
            call("best", oneOf(banks), from, oneIn(30) ? wild() : from + length, inRange(1, 60));
        }
    }

    private void addHeat() {
        int who = 0;
        for (int i = 0; i < 2 + upTo(3); i++) {
            who |= 1 << upTo(surfers);
        }
        if (oneIn(20)) {
            who = among(0, 1, 31, 1 << surfers | 1, -1, Integer.MIN_VALUE, wild());
        }
        if (number(call("heat", oneOf(banks), oneIn(3) ? inRange(0, 99939) : upTo(100), 
                oneIn(2) ? 60 : inRange(10, 60), who)) >= 0) {
            heats++;
        }
    }

    private int someoneOf(int heat) {
        if (oneIn(25)) {
            return oneOf(surfers);
        }
        for (int i = 0; i < 9; i++) {
            try {
                int surfer = model.surferAt(heat, upTo(4));
                if (oneIn(12) || model.place(heat, surfer) != -2) {
                    return surfer;
                }
            } catch (RuntimeException none) {
                continue;
            }
        }
        return oneOf(surfers);
    }

    /** The minute of the last act, or one a little behind; with a wave, if that is asked for and there is one. */
    private int someMinute(int heat, boolean hasWave) {
        int latest = 0;
        try {
            latest = latestOf(heat);
        } catch (RuntimeException none) {
            return wild();
        }
        if (oneIn(30)) {
            return among(latest - 1, latest + 60, wild());
        }
        int minute = oneIn(3) ? latest : latest + 1 + upTo(oneIn(6) ? 15 : 3);
        for (int i = 0; i < 20 && hasWave && !oneIn(30); i++) {
            if (waveIn(heat, minute)) {
                return minute;
            }
            minute++;
        }
        return minute;
    }

    private int latestOf(int heat) {
        return model.latest(heat);
    }

    private boolean waveIn(int heat, int minute) {
        return model.hasWave(heat, minute);
    }

    private void act(int someHeat) {
        int heat = oneIn(40) ? oneOf(heats) : someHeat;
        int surfer = someoneOf(heat);
        int kind = upTo(40);
        if (kind < 16) {
            int marks = oneIn(20) ? among(-1, typed - 4, typed, wild()) : upTo(typed - 4);
            int minute = someMinute(heat, true);
            call("ride", heat, surfer, minute, marks, oneIn(2));
            if (oneIn(2)) {
                call("ride", heat, someoneOf(heat), minute, upTo(typed - 4), !oneIn(3));
            }
        } else if (kind < 22) {
            call("miss", heat, surfer, someMinute(heat, true));
        } else if (kind < 27) {
            call("block", heat, surfer, someMinute(heat, false));
        } else if (kind < 31) {
            call("suspend", heat, surfer, someMinute(heat, false));
        } else if (kind == 31) {
            call("leave", heat, surfer, someMinute(heat, false));
        } else if (kind < 34) {
            call("restart", heat, someMinute(heat, false));
        } else if (kind == 34 && oneIn(3)) {
            call("close", oneIn(9) ? oneOf(heats) : heat);
        }
        ask(heat);
    }

    private void ask(int someHeat) {
        int heat = oneIn(40) ? oneOf(heats) : someHeat;
        int surfer = someoneOf(heat);
        switch (upTo(16)) {
            case 0: call("isOpen", heat); break;
            case 1: call("place", heat, surfer); break;
            case 2: call("first", heat); break;
            case 3: call("score", heat, surfer, oneIn(20) ? wild() : upTo(oneIn(2) ? 2 : 6)); break;
            case 4: call("total", heat, surfer); break;
            case 5: call("hindered", heat, surfer, (char) (oneIn(9) ? among('x', 'P', 0, 65535) : among('p', 'n')));
                break;
            case 6: call("rank", heat, surfer); break;
            case 7: call("ranked", heat, inRange(1, 4)); break;
            case 8: case 9: case 10: call("need", heat, surfer, oneIn(9) ? wild() : inRange(1, 4)); break;
            case 11: call("acts", heat); break;
            case 12: call("surferAt", heat, inRange(0, 3)); break;
            case 13: call("meanScore", heat); break;
            case 14: call("checksum"); break;
            default: call("place", heat, surfer);
        }
    }

    private void sums() {
        switch (upTo(3)) {
            case 0: call("openShare"); break;
            case 1: call("checksum"); break;
            default: call("isSound");
        }
    }

    private void tour() {
        switch (upTo(9)) {
            case 0: call("drop", inRange(0, 3)); break;
            case 1: call("points", oneOf(surfers)); break;
            case 2: case 3: case 4: call("seed", oneOf(surfers)); break;
            case 5: call("isCut", oneOf(surfers)); break;
            case 6: if (oneIn(4)) {
                    call("cut", oneIn(3) ? inRange(1, 16) : 12 + upTo(4));
                }
                break;
            default: call("eventPoints", oneOf(events), oneOf(surfers));
        }
    }

    private void event() {
        if (events == 0 || oneIn(25)) {
            if (number(call("event", oneOf(banks))) >= 0) {
                events++;
            } else {
                addSurfer();
            }
            return;
        }
        int event = oneOf(events);
        int round = 0;
        int size = 0;
        try {
            round = model.rounds(event);
            size = round == 0 ? 0 : round < 4 ? 4 : round == 4 ? 2 : 1;
        } catch (RuntimeException none) {
            call("rounds", event);
        }
        int open = openOf(event, round, size);
        if (open >= 0 && oneIn(2)) {
            act(open);
        } else if (open >= 0) {
            call("close", open);
        } else {
            int begin = oneIn(9) ? inRange(0, 99939) : upTo(2000);
            int made = number(call("round", event, begin));
            heats += made < 0 ? 0 : round < 3 ? 4 : round == 3 ? 2 : 1;
        }
        switch (upTo(6)) {
            case 0: call("heatOf", event, inRange(1, 5), inRange(0, 3)); break;
            case 1: call("rounds", event); break;
            case 2: call("eventPoints", event, oneOf(surfers)); break;
            case 3: call("round", event, upTo(100)); heats = model.heatCount(); break;
            default: tour();
        }
    }

    private int openOf(int event, int round, int size) {
        for (int index = 0; index < size; index++) {
            int heat = model.heatOf(event, round, index);
            if (model.isOpen(heat)) {
                return heat;
            }
        }
        return -1;
    }
}
