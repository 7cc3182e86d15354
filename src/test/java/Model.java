import java.util.ArrayList;
import java.util.Arrays;
import java.util.Collections;
import java.util.List;
import java.util.NoSuchElementException;

/**
 * The document once more, told in the slowest way: nothing is kept but what was told, and each question is answered
 * by telling all of it anew. It shares no line with the program, so that a slip in one of them shows.
 */
final class Model {
    private record Told(String kind, int surfer, int minute, int score, boolean isHindering) {
    }

    private static final class ModelHeat {
        int bank;
        int first;
        int minutes;
        List<Integer> who = new ArrayList<>();
        List<Told> told = new ArrayList<>();
        boolean open = true;
    }

    private static final class ModelEvent {
        int bank;
        List<Integer> who = new ArrayList<>();
        List<List<Integer>> rounds = new ArrayList<>();
    }

    /** What a heat has come to. */
    private static final class State {
        List<Integer> notIn = new ArrayList<>();
        List<Integer> row = new ArrayList<>();
        List<Integer> p = new ArrayList<>();
        List<Integer> n = new ArrayList<>();

        void settle() {
            if (notIn.size() == 1) {
                row.add(0, notIn.remove(0));
            }
        }

        void toEnd(int surfer) {
            notIn.remove((Integer) surfer);
            row.remove((Integer) surfer);
            row.add(surfer);
            settle();
        }

        void away(int surfer) {
            notIn.remove((Integer) surfer);
            row.remove((Integer) surfer);
            settle();
        }

        boolean has(int surfer) {
            return notIn.contains(surfer) || row.contains(surfer);
        }
    }

    private final List<int[]> swells = new ArrayList<>();
    private final List<int[]> banks = new ArrayList<>();
    private final List<Integer> years = new ArrayList<>();
    private final List<Integer> cuts = new ArrayList<>();
    private final List<Integer> typed = new ArrayList<>();
    private final List<ModelHeat> heats = new ArrayList<>();
    private final List<ModelEvent> events = new ArrayList<>();
    private int dropped;

    private static void argue(boolean isRight) {
        if (!isRight) {
            throw new IllegalArgumentException();
        }
    }

    private static void index(int i, List<?> list) {
        if (i < 0 || i >= list.size()) {
            throw new IndexOutOfBoundsException();
        }
    }

    private static void support(boolean isRight) {
        if (!isRight) {
            throw new UnsupportedOperationException();
        }
    }

    private static void state(boolean isRight) {
        if (!isRight) {
            throw new IllegalStateException();
        }
    }

    private static void element(boolean isThere) {
        if (!isThere) {
            throw new NoSuchElementException();
        }
    }

    private static boolean in(long low, long value, long high) {
        return low <= value && value <= high;
    }

    public int swell(int height, int period, int direction, int first, int last) {
        argue(in(50, height, 600) && in(5, period, 20) && in(0, direction, 359) && in(0, first, 99999)
                && in(0, last, 99999) && last >= first);
        state(swells.size() < 6);
        swells.add(new int[] {height, period, direction, first, last});
        return swells.size() - 1;
    }

    public int bank(int direction, int share, int low, int high) {
        argue(in(0, direction, 359) && in(10, share, 200) && in(0, low, 400) && in(0, high, 400) && low <= high);
        state(banks.size() < 4);
        banks.add(new int[] {direction, share, low, high});
        return banks.size() - 1;
    }

    public int tide(int minute) {
        argue(in(0, minute, 99999));
        return tideIn(minute);
    }

    private static int tideIn(int minute) {
        int rest = minute % 744;
        int far = rest > 372 ? rest - 372 : 372 - rest;
        return 400 * far / 372;
    }

    private int height(int bank, int minute) {
        int[] b = banks.get(bank);
        int highest = 0;
        for (int i = 0; i < swells.size(); i++) {
            int[] s = swells.get(i);
            boolean made = in(s[3], minute, s[4]) && (7L * minute + 3L * i) % s[1] == 0
                    && in(b[2], tideIn(minute), b[3]);
            int one = Math.floorMod(s[2] - b[0], 360);
            int other = Math.floorMod(b[0] - s[2], 360);
            int half = (one < other ? one : other) / 2;
            int h = (s[0] * b[1] / 100) * (100 - half) / 100;
            if (made && h > highest) {
                highest = h;
            }
        }
        return highest >= 30 ? highest : 0;
    }

    public int wave(int bank, int minute) {
        index(bank, banks);
        argue(in(0, minute, 99999));
        return height(bank, minute);
    }

    public int best(int bank, int from, int to, int minutes) {
        index(bank, banks);
        argue(in(0, from, 99999) && in(0, to, 99999) && in(1, minutes, 60) && to >= from && (long) to - from <= 2000
                && (long) to + minutes - 1 <= 99999);
        int best = -1;
        int greatest = -1;
        for (int begin = from; begin <= to; begin++) {
            int sum = 0;
            for (int i = 0; i < minutes; i++) {
                sum += height(bank, begin + i);
            }
            if (sum > greatest) {
                greatest = sum;
                best = begin;
            }
        }
        return best;
    }

    public int surfer(int points) {
        argue(in(0, points, 99999));
        state(years.size() < 16);
        years.add(points);
        return years.size() - 1;
    }

    public int heat(int bank, int first, int minutes, int surfers) {
        index(bank, banks);
        argue(in(0, first, 99939) && in(10, minutes, 60));
        ModelHeat heat = new ModelHeat();
        heat.bank = bank;
        heat.first = first;
        heat.minutes = minutes;
        for (int bit = 0; bit < 32; bit++) {
            if ((surfers & 1 << bit) != 0) {
                argue(bit < years.size());
                heat.who.add(bit);
            }
        }
        argue(in(2, heat.who.size(), 4));
        state(heats.size() < 40);
        heats.add(heat);
        return heats.size() - 1;
    }

    private State stateOf(ModelHeat heat) {
        State state = new State();
        state.notIn.addAll(heat.who);
        for (int i = 0; i < heat.told.size(); i++) {
            Told act = heat.told.get(i);
            switch (act.kind) {
                case "ride":
                    Told before = null;
                    int beforeAt = -1;
                    for (int j = 0; j < i; j++) {
                        Told other = heat.told.get(j);
                        if (other.kind.equals("ride") && other.minute == act.minute) {
                            before = other;
                            beforeAt = j;
                        }
                    }
                    state.toEnd(act.surfer);
                    if (before != null && act.isHindering) {
                        blame(heat, state, beforeAt, before.surfer, act.surfer);
                    }
                    break;
                case "miss":
                case "block":
                    if (state.notIn.isEmpty() && state.row.get(0) == act.surfer) {
                        state.toEnd(act.surfer);
                    }
                    break;
                case "suspend":
                    state.toEnd(act.surfer);
                    break;
                default:
                    state.away(act.surfer);
            }
        }
        return state;
    }

    private void blame(ModelHeat heat, State state, int acts, int firstRider, int secondRider) {
        ModelHeat cut = new ModelHeat();
        cut.who = heat.who;
        cut.told = heat.told.subList(0, acts);
        State ahead = stateOf(cut);
        boolean isFirstIn = ahead.row.contains(firstRider);
        boolean isSecondIn = ahead.row.contains(secondRider);
        int blamed;
        if (!isFirstIn && !isSecondIn) {
            blamed = secondRider;
            state.n.add(blamed);
        } else {
            if (isFirstIn && isSecondIn) {
                blamed = ahead.row.indexOf(firstRider) < ahead.row.indexOf(secondRider) ? secondRider : firstRider;
            } else {
                blamed = isFirstIn ? firstRider : secondRider;
            }
            state.p.add(blamed);
        }
        if (Collections.frequency(state.p, blamed) + Collections.frequency(state.n, blamed) > 1) {
            state.away(blamed);
        }
    }

    private static boolean fits(ModelHeat heat, int minute) {
        int least = heat.told.isEmpty() ? heat.first : heat.told.get(heat.told.size() - 1).minute;
        return minute >= least && minute < heat.first + heat.minutes;
    }

    private ModelHeat heatFor(int heat, int surfer) {
        index(heat, heats);
        index(surfer, years);
        return heats.get(heat);
    }

    private int act(String kind, ModelHeat heat, int surfer, int minute, boolean needsWave) {
        support(heat.open && stateOf(heat).has(surfer) && fits(heat, minute));
        support(!needsWave || height(heat.bank, minute) > 0);
        heat.told.add(new Told(kind, surfer, minute, 0, false));
        return placeIn(heat, surfer);
    }

    private int placeIn(ModelHeat heat, int surfer) {
        State state = stateOf(heat);
        return state.has(surfer) ? state.row.indexOf(surfer) : -2;
    }

    public int ride(int heat, int surfer, int minute, int marks, boolean isHindering) {
        ModelHeat h = heatFor(heat, surfer);
        argue(marks >= 0 && (long) marks + 5 <= typed.size());
        List<Integer> five = new ArrayList<>(typed.subList(marks, marks + 5));
        Collections.sort(five);
        int score = (five.get(1) + five.get(2) + five.get(3) + 1) / 3;
        support(h.open && stateOf(h).has(surfer) && fits(h, minute) && height(h.bank, minute) > 0);
        int riders = 0;
        for (Told act : h.told) {
            if (act.kind.equals("ride") && act.minute == minute) {
                support(act.surfer != surfer);
                riders++;
            }
        }
        support(riders < 2);
        h.told.add(new Told("ride", surfer, minute, score, isHindering));
        return score;
    }

    public int mark(int mark) {
        argue(in(0, mark, 1000));
        state(typed.size() < 30);
        typed.add(mark);
        return typed.size();
    }

    public int wipe() {
        int before = typed.size();
        typed.clear();
        return before;
    }

    public int miss(int heat, int surfer, int minute) {
        return act("miss", heatFor(heat, surfer), surfer, minute, true);
    }

    public int block(int heat, int surfer, int minute) {
        return act("block", heatFor(heat, surfer), surfer, minute, false);
    }

    public int suspend(int heat, int surfer, int minute) {
        return act("suspend", heatFor(heat, surfer), surfer, minute, false);
    }

    public int leave(int heat, int surfer, int minute) {
        ModelHeat h = heatFor(heat, surfer);
        act("leave", h, surfer, minute, false);
        State state = stateOf(h);
        return state.notIn.size() + state.row.size();
    }

    public boolean restart(int heat, int minute) {
        index(heat, heats);
        ModelHeat h = heats.get(heat);
        support(h.open && fits(h, minute));
        for (Told act : h.told) {
            support(!act.kind.equals("ride"));
        }
        support(minute <= h.first + 10);
        boolean had = !h.told.isEmpty();
        h.told.clear();
        h.first = minute;
        return had;
    }

    public int close(int heat) {
        index(heat, heats);
        support(heats.get(heat).open);
        heats.get(heat).open = false;
        return order(heats.get(heat)).get(0);
    }

    public boolean isOpen(int heat) {
        index(heat, heats);
        return heats.get(heat).open;
    }

    private ModelHeat heatOfSurfer(int heat, int surfer) {
        ModelHeat h = heatFor(heat, surfer);
        element(h.who.contains(surfer));
        return h;
    }

    public int place(int heat, int surfer) {
        return placeIn(heatOfSurfer(heat, surfer), surfer);
    }

    public int first(int heat) {
        index(heat, heats);
        State state = stateOf(heats.get(heat));
        element(state.notIn.isEmpty() && !state.row.isEmpty());
        return state.row.get(0);
    }

    private static List<Integer> scores(ModelHeat heat, int surfer) {
        List<Integer> scores = new ArrayList<>();
        for (Told act : heat.told) {
            if (act.kind.equals("ride") && act.surfer == surfer) {
                scores.add(act.score);
            }
        }
        scores.sort(Collections.reverseOrder());
        return scores;
    }

    public int score(int heat, int surfer, int index) {
        ModelHeat h = heatOfSurfer(heat, surfer);
        List<Integer> scores = scores(h, surfer);
        element(index >= 0 && index < scores.size());
        return scores.get(index);
    }

    /** Sum, best and second best, and the place as told below all, so that arrays compare like surfers. */
    private int[] key(ModelHeat heat, State state, int surfer, List<Integer> scores) {
        int best = scores.isEmpty() ? 0 : scores.get(0);
        int second = scores.size() < 2 ? 0 : scores.get(1);
        int counted = state.p.contains(surfer) ? 0 : state.n.contains(surfer) ? second / 2 : second;
        return new int[] {-best - counted, -best, -second, heat.who.indexOf(surfer)};
    }

    private List<Integer> orderWith(ModelHeat heat, int changed, List<Integer> scoresOfChanged) {
        State state = stateOf(heat);
        List<Integer> order = new ArrayList<>(heat.who);
        order.sort((a, b) -> Arrays.compare(
                key(heat, state, a, a == changed ? scoresOfChanged : scores(heat, a)),
                key(heat, state, b, b == changed ? scoresOfChanged : scores(heat, b))));
        return order;
    }

    private List<Integer> order(ModelHeat heat) {
        return orderWith(heat, -1, null);
    }

    public int total(int heat, int surfer) {
        ModelHeat h = heatOfSurfer(heat, surfer);
        return -key(h, stateOf(h), surfer, scores(h, surfer))[0];
    }

    public int hindered(int heat, int surfer, char kind) {
        ModelHeat h = heatFor(heat, surfer);
        argue(kind == 'p' || kind == 'n');
        element(h.who.contains(surfer));
        State state = stateOf(h);
        return Collections.frequency(kind == 'p' ? state.p : state.n, surfer);
    }

    public int rank(int heat, int surfer) {
        ModelHeat h = heatOfSurfer(heat, surfer);
        return order(h).indexOf(surfer) + 1;
    }

    public int ranked(int heat, int rank) {
        index(heat, heats);
        List<Integer> order = order(heats.get(heat));
        element(in(1, rank, order.size()));
        return order.get(rank - 1);
    }

    public int need(int heat, int surfer, int rank) {
        ModelHeat h = heatFor(heat, surfer);
        support(h.open && stateOf(h).has(surfer));
        for (int score = 0; score <= 1000; score++) {
            List<Integer> scores = scores(h, surfer);
            scores.add(score);
            scores.sort(Collections.reverseOrder());
            if (orderWith(h, surfer, scores).indexOf(surfer) < rank) {
                return score;
            }
        }
        throw new NoSuchElementException();
    }

    public int acts(int heat) {
        index(heat, heats);
        return heats.get(heat).told.size();
    }

    public int event(int bank) {
        index(bank, banks);
        ModelEvent event = new ModelEvent();
        event.bank = bank;
        for (int surfer : seeds()) {
            if (!cuts.contains(surfer) && event.who.size() < 12) {
                event.who.add(surfer);
            }
        }
        support(event.who.size() == 12);
        state(events.size() < 4);
        events.add(event);
        return events.size() - 1;
    }

    private int from(ModelEvent event, int round, int heat, int rank) {
        return order(heats.get(event.rounds.get(round - 1).get(heat))).get(rank - 1);
    }

    private List<List<Integer>> draw(ModelEvent event) {
        List<List<Integer>> draw = new ArrayList<>();
        int round = event.rounds.size() + 1;
        if (round == 4) {
            draw.add(Arrays.asList(from(event, 3, 0, 1), from(event, 3, 3, 1)));
            draw.add(Arrays.asList(from(event, 3, 1, 1), from(event, 3, 2, 1)));
        } else if (round == 5) {
            draw.add(Arrays.asList(from(event, 4, 0, 1), from(event, 4, 1, 1)));
        } else {
            for (int k = 0; k < 4; k++) {
                if (round == 1) {
                    draw.add(Arrays.asList(event.who.get(k), event.who.get(8 - 1 - k), event.who.get(8 + k)));
                } else if (round == 2) {
                    draw.add(Arrays.asList(from(event, 1, k, 2), from(event, 1, 3 - k, 3)));
                } else {
                    draw.add(Arrays.asList(from(event, 1, k, 1), from(event, 2, 3 - k, 1)));
                }
            }
        }
        for (List<Integer> who : draw) {
            who.sort((a, b) -> event.who.indexOf(a) - event.who.indexOf(b));
        }
        return draw;
    }

    public int round(int event, int first) {
        index(event, events);
        ModelEvent e = events.get(event);
        argue(in(0, first, 99939));
        if (!e.rounds.isEmpty()) {
            for (int heat : e.rounds.get(e.rounds.size() - 1)) {
                support(!heats.get(heat).open);
            }
        }
        support(e.rounds.size() < 5);
        List<List<Integer>> draw = draw(e);
        state(heats.size() + draw.size() <= 40);
        List<Integer> numbers = new ArrayList<>();
        for (List<Integer> who : draw) {
            ModelHeat heat = new ModelHeat();
            heat.bank = e.bank;
            heat.first = first;
            heat.minutes = 30;
            heat.who.addAll(who);
            numbers.add(heats.size());
            heats.add(heat);
        }
        e.rounds.add(numbers);
        return numbers.get(0);
    }

    public int rounds(int event) {
        index(event, events);
        return events.get(event).rounds.size();
    }

    public int heatOf(int event, int round, int index) {
        index(event, events);
        List<List<Integer>> rounds = events.get(event).rounds;
        element(in(1, round, rounds.size()));
        element(in(0, index, rounds.get(round - 1).size() - 1));
        return rounds.get(round - 1).get(index);
    }

    public int surferAt(int heat, int index) {
        index(heat, heats);
        element(in(0, index, heats.get(heat).who.size() - 1));
        return heats.get(heat).who.get(index);
    }

    private int eventPointsOf(ModelEvent event, int surfer) {
        boolean isOver = event.rounds.size() == 5 && !heats.get(event.rounds.get(4).get(0)).open;
        if (!isOver || !event.who.contains(surfer)) {
            return 0;
        }
        int lastRound = 0;
        for (int round = 1; round <= 5; round++) {
            for (int heat : event.rounds.get(round - 1)) {
                if (heats.get(heat).who.contains(surfer)) {
                    lastRound = round;
                }
            }
        }
        if (lastRound == 5) {
            return from(event, 5, 0, 1) == surfer ? 10000 : 7800;
        }
        return lastRound == 4 ? 6085 : lastRound == 3 ? 4745 : 3320;
    }

    public int eventPoints(int event, int surfer) {
        index(event, events);
        index(surfer, years);
        return eventPointsOf(events.get(event), surfer);
    }

    public int drop(int events) {
        argue(in(0, events, 3));
        int before = dropped;
        dropped = events;
        return before;
    }

    private int tourPoints(int surfer) {
        List<Integer> results = new ArrayList<>();
        for (ModelEvent event : events) {
            results.add(eventPointsOf(event, surfer));
        }
        Collections.sort(results);
        int sum = 0;
        for (int i = dropped; i < results.size(); i++) {
            sum += results.get(i);
        }
        return sum;
    }

    public int points(int surfer) {
        index(surfer, years);
        return tourPoints(surfer);
    }

    private List<Integer> seeds() {
        List<int[]> keys = new ArrayList<>();
        for (int surfer = 0; surfer < years.size(); surfer++) {
            keys.add(new int[] {-tourPoints(surfer), -years.get(surfer), surfer});
        }
        keys.sort(Arrays::compare);
        List<Integer> seeds = new ArrayList<>();
        for (int[] key : keys) {
            seeds.add(key[2]);
        }
        return seeds;
    }

    public int seed(int rank) {
        element(in(0, rank, years.size() - 1));
        return seeds().get(rank);
    }

    public int cut(int seeds) {
        argue(in(1, seeds, 16));
        int cut = 0;
        List<Integer> order = seeds();
        for (int i = seeds; i < order.size(); i++) {
            if (!cuts.contains(order.get(i))) {
                cuts.add(order.get(i));
                cut++;
            }
        }
        return cut;
    }

    public boolean isCut(int surfer) {
        index(surfer, years);
        return cuts.contains(surfer);
    }

    public long checksum() {
        long sum = 7;
        for (ModelHeat heat : heats) {
            State state = stateOf(heat);
            for (int surfer : heat.who) {
                sum = 31 * sum - key(heat, state, surfer, scores(heat, surfer))[0];
                sum = 31 * sum + placeIn(heat, surfer) + 3;
            }
        }
        return sum;
    }

    public float openShare() {
        if (heats.isEmpty()) {
            throw new ArithmeticException();
        }
        int open = 0;
        for (ModelHeat heat : heats) {
            open += heat.open ? 1 : 0;
        }
        return (float) open / (float) heats.size();
    }

    public double meanScore(int heat) {
        index(heat, heats);
        int sum = 0;
        int count = 0;
        for (int surfer : heats.get(heat).who) {
            for (int score : scores(heats.get(heat), surfer)) {
                sum += score;
                count++;
            }
        }
        if (count == 0) {
            throw new ArithmeticException();
        }
        return (double) sum / (double) count;
    }

    public boolean isSound() {
        return true;
    }

    /** For those who tell runs: the least minute that fits. */
    int latest(int heat) {
        ModelHeat h = heats.get(heat);
        return h.told.isEmpty() ? h.first : h.told.get(h.told.size() - 1).minute;
    }

    boolean hasWave(int heat, int minute) {
        return minute >= 0 && height(heats.get(heat).bank, minute) > 0;
    }

    int heatCount() {
        return heats.size();
    }

    int eventsOver() {
        int over = 0;
        for (ModelEvent event : events) {
            over += event.rounds.size() == 5 && !heats.get(event.rounds.get(4).get(0)).open ? 1 : 0;
        }
        return over;
    }

    int sentOut() {
        int out = 0;
        for (ModelHeat heat : heats) {
            State state = stateOf(heat);
            for (int surfer : heat.who) {
                out += Collections.frequency(state.p, surfer) + Collections.frequency(state.n, surfer) > 1 ? 1 : 0;
            }
        }
        return out;
    }
}
