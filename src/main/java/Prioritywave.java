import java.util.NoSuchElementException;

/** A tour of surfing: its sea, its surfers, its heats and its events. */
public final class Prioritywave {
    private static final int LAST_MINUTE = 99999;
    private static final int LAST_BEGINNING = 99939;
    private static final int LONGEST_SEARCH = 2000;
    private static final int LONGEST_HEAT = 60;
    private static final int LATEST_RESTART = 10;
    private static final int MOST_POINTS = 99999;
    private static final int MOST_SURFERS = 16;
    private static final int MOST_IN_HEAT = 4;
    private static final int MOST_EVENTS = 4;
    private static final int MOST_HEATS = 40;
    // An object is promised for as many calls, so no heat of it can have more acts.
    private static final int MOST_ACTS = 512;
    private static final int GREATEST_MARK = 1000;
    private static final int MARKS_OF_RIDE = 5;
    private static final int LEAST_WAVE = 30;

    private static final int EVENT_SURFERS = 12;

    private static final int NOT_IN_ROW = -1;
    private static final int GONE = -2;
    private static final int NONE = -1;

    private static final int RIDE = 0;
    private static final int MISS = 1;
    private static final int BLOCK = 2;
    private static final int SUSPEND = 3;
    private static final int LEAVE = 4;

    private final Sea sea;
    private final Panel panel;
    private final Tour tour;
    private final Heat[] heats;
    private final Course retold;
    private int heatCount;

    public Prioritywave() {
        sea = new Sea();
        panel = new Panel();
        tour = new Tour();
        heats = new Heat[MOST_HEATS];
        retold = new Course();
    }

    public int swell(int height, int period, int direction, int first, int last)
            throws IllegalArgumentException, IllegalStateException {
        if (isOutside(height, 50, 600) || isOutside(period, 5, 20) || isOutside(direction, 0, 359)
                || isOutside(first, 0, LAST_MINUTE) || isOutside(last, first, LAST_MINUTE)) {
            throw new IllegalArgumentException("no such swell");
        }
        int number = sea.addSwell(height, period, direction, first, last);
        if (number == NONE) {
            throw new IllegalStateException("there are 6 swells");
        }
        return number;
    }

    public int bank(int direction, int share, int low, int high)
            throws IllegalArgumentException, IllegalStateException {
        if (isOutside(direction, 0, 359) || isOutside(share, 10, 200)
                || isOutside(low, 0, 400) || isOutside(high, low, 400)) {
            throw new IllegalArgumentException("no such bank");
        }
        int number = sea.addBank(direction, share, low, high);
        if (number == NONE) {
            throw new IllegalStateException("there are 4 banks");
        }
        return number;
    }

    public int tide(int minute) throws IllegalArgumentException {
        refuseMinute(minute);
        return Sea.tideAt(minute);
    }

    public int wave(int bank, int minute) throws IndexOutOfBoundsException, IllegalArgumentException {
        Bank at = bankNumbered(bank);
        refuseMinute(minute);
        return sea.heightAt(at, minute);
    }

    public int best(int bank, int from, int to, int minutes)
            throws IndexOutOfBoundsException, IllegalArgumentException {
        Bank at = bankNumbered(bank);
        if (isOutside(from, 0, LAST_MINUTE) || isOutside(to, from, LAST_MINUTE) || to - from > LONGEST_SEARCH
                || isOutside(minutes, 1, LONGEST_HEAT) || to + minutes - 1 > LAST_MINUTE) {
            throw new IllegalArgumentException("no such minutes");
        }
        return sea.bestBeginning(at, from, to, minutes);
    }

    public int surfer(int points) throws IllegalArgumentException, IllegalStateException {
        if (isOutside(points, 0, MOST_POINTS)) {
            throw new IllegalArgumentException("no such points");
        }
        int number = tour.addSurfer(points);
        if (number == NONE) {
            throw new IllegalStateException("there are 16 surfers");
        }
        return number;
    }

    public int heat(int bank, int first, int minutes, int surfers)
            throws IndexOutOfBoundsException, IllegalArgumentException, IllegalStateException {
        Bank at = bankNumbered(bank);
        if (isOutside(first, 0, LAST_BEGINNING) || isOutside(minutes, 10, LONGEST_HEAT)
                || !tour.hasAll(surfers) || isOutside(Integer.bitCount(surfers), 2, MOST_IN_HEAT)) {
            throw new IllegalArgumentException("no such heat can be made");
        }
        refuseMoreHeats(1);
        return addHeat(new Heat(at, first, minutes, numbersIn(surfers)));
    }

    public int ride(int heat, int surfer, int minute, int marks, boolean isHindering)
            throws IndexOutOfBoundsException, IllegalArgumentException, UnsupportedOperationException {
        Heat told = heatNumbered(heat);
        refuseSurfer(surfer);
        int given = panel.scoreFrom(marks);
        if (given == NONE) {
            throw new IllegalArgumentException("five marks are not typed from there on");
        }
        int slot = slotToAct(told, surfer, minute);
        refuseFlat(told, minute);
        if (!told.isFreeWave(slot, minute)) {
            throw new UnsupportedOperationException("the wave is ridden");
        }
        told.tell(RIDE, slot, minute, isHindering);
        told.enter(slot, given);
        return given;
    }

    public int mark(int mark) throws IllegalArgumentException, IllegalStateException {
        if (isOutside(mark, 0, GREATEST_MARK)) {
            throw new IllegalArgumentException("no such mark");
        }
        int typed = panel.type(mark);
        if (typed == NONE) {
            throw new IllegalStateException("30 marks are typed");
        }
        return typed;
    }

    public int wipe() {
        return panel.wipeAll();
    }

    public int miss(int heat, int surfer, int minute)
            throws IndexOutOfBoundsException, UnsupportedOperationException {
        Heat told = heatNumbered(heat);
        refuseSurfer(surfer);
        int slot = slotToAct(told, surfer, minute);
        refuseFlat(told, minute);
        told.tell(MISS, slot, minute, false);
        return told.placeOf(slot);
    }

    public int block(int heat, int surfer, int minute)
            throws IndexOutOfBoundsException, UnsupportedOperationException {
        Heat told = heatNumbered(heat);
        refuseSurfer(surfer);
        int slot = slotToAct(told, surfer, minute);
        told.tell(BLOCK, slot, minute, false);
        return told.placeOf(slot);
    }

    public int suspend(int heat, int surfer, int minute)
            throws IndexOutOfBoundsException, UnsupportedOperationException {
        Heat told = heatNumbered(heat);
        refuseSurfer(surfer);
        int slot = slotToAct(told, surfer, minute);
        told.tell(SUSPEND, slot, minute, false);
        return told.placeOf(slot);
    }

    public int leave(int heat, int surfer, int minute)
            throws IndexOutOfBoundsException, UnsupportedOperationException {
        Heat told = heatNumbered(heat);
        refuseSurfer(surfer);
        int slot = slotToAct(told, surfer, minute);
        told.tell(LEAVE, slot, minute, false);
        return told.left();
    }

    public boolean restart(int heat, int minute) throws IndexOutOfBoundsException, UnsupportedOperationException {
        Heat told = heatNumbered(heat);
        if (!told.canBeginAnew(minute)) {
            throw new UnsupportedOperationException("the heat cannot be begun anew");
        }
        boolean hadActs = told.actCount() > 0;
        told.beginAnew(minute);
        return hadActs;
    }

    public int close(int heat) throws IndexOutOfBoundsException, UnsupportedOperationException {
        Heat told = heatNumbered(heat);
        if (!told.isRunning()) {
            throw new UnsupportedOperationException("the heat is closed");
        }
        told.shut();
        tour.giveDuePoints();
        return told.surferRanked(1);
    }

    public boolean isOpen(int heat) throws IndexOutOfBoundsException {
        return heatNumbered(heat).isRunning();
    }

    public int place(int heat, int surfer) throws IndexOutOfBoundsException, NoSuchElementException {
        Heat asked = heatNumbered(heat);
        return asked.placeOf(slotToTell(asked, surfer));
    }

    public int first(int heat) throws IndexOutOfBoundsException, NoSuchElementException {
        int leader = heatNumbered(heat).leader();
        if (leader == NONE) {
            throw new NoSuchElementException("nobody alone has the right");
        }
        return leader;
    }

    public int score(int heat, int surfer, int index) throws IndexOutOfBoundsException, NoSuchElementException {
        Heat asked = heatNumbered(heat);
        int slot = slotToTell(asked, surfer);
        if (isOutside(index, 0, asked.rideCount(slot) - 1)) {
            throw new NoSuchElementException("no such score");
        }
        return asked.scoreAt(slot, index);
    }

    public int total(int heat, int surfer) throws IndexOutOfBoundsException, NoSuchElementException {
        Heat asked = heatNumbered(heat);
        return asked.countedBy(slotToTell(asked, surfer));
    }

    public int hindered(int heat, int surfer, char kind)
            throws IndexOutOfBoundsException, IllegalArgumentException, NoSuchElementException {
        Heat asked = heatNumbered(heat);
        refuseSurfer(surfer);
        if (kind != 'p' && kind != 'n') {
            throw new IllegalArgumentException("no such kind");
        }
        return asked.interferences(slotToTell(asked, surfer), kind);
    }

    public int rank(int heat, int surfer) throws IndexOutOfBoundsException, NoSuchElementException {
        Heat asked = heatNumbered(heat);
        return asked.rankOf(slotToTell(asked, surfer));
    }

    public int ranked(int heat, int rank) throws IndexOutOfBoundsException, NoSuchElementException {
        int found = heatNumbered(heat).surferRanked(rank);
        if (found == NONE) {
            throw new NoSuchElementException("no such rank");
        }
        return found;
    }

    public int need(int heat, int surfer, int rank)
            throws IndexOutOfBoundsException, UnsupportedOperationException, NoSuchElementException {
        Heat asked = heatNumbered(heat);
        refuseSurfer(surfer);
        int slot = asked.slotOf(surfer);
        if (!asked.isActive(slot)) {
            throw new UnsupportedOperationException("no ride of this one can follow");
        }
        int needed = asked.neededFor(slot, rank);
        if (needed == NONE) {
            throw new NoSuchElementException("no score does");
        }
        return needed;
    }

    public int acts(int heat) throws IndexOutOfBoundsException {
        return heatNumbered(heat).actCount();
    }

    public int event(int bank)
            throws IndexOutOfBoundsException, UnsupportedOperationException, IllegalStateException {
        Bank at = bankNumbered(bank);
        if (tour.uncut() < EVENT_SURFERS) {
            throw new UnsupportedOperationException("there are not 12 surfers who are not cut");
        }
        int number = tour.addEvent(at);
        if (number == NONE) {
            throw new IllegalStateException("there are 4 events");
        }
        return number;
    }

    public int round(int event, int first) throws IndexOutOfBoundsException, IllegalArgumentException,
            UnsupportedOperationException, IllegalStateException {
        Event drawn = eventNumbered(event);
        if (isOutside(first, 0, LAST_BEGINNING)) {
            throw new IllegalArgumentException("no such first minute");
        }
        if (!drawn.isReady()) {
            throw new UnsupportedOperationException("no round can follow now");
        }
        int heatsOfRound = Event.heatsOf(drawn.roundCount() + 1);
        refuseMoreHeats(heatsOfRound);
        int number = heatCount;
        for (int index = 0; index < heatsOfRound; index++) {
            addHeat(drawn.drawHeat(index, first));
        }
        drawn.endDraw(number);
        return number;
    }

    public int rounds(int event) throws IndexOutOfBoundsException {
        return eventNumbered(event).roundCount();
    }

    public int heatOf(int event, int round, int index) throws IndexOutOfBoundsException, NoSuchElementException {
        int number = eventNumbered(event).heatNumber(round, index);
        if (number == NONE) {
            throw new NoSuchElementException("no such heat of the event");
        }
        return number;
    }

    public int surferAt(int heat, int index) throws IndexOutOfBoundsException, NoSuchElementException {
        int found = heatNumbered(heat).surferTold(index);
        if (found == NONE) {
            throw new NoSuchElementException("no such surfer of the heat");
        }
        return found;
    }

    public int eventPoints(int event, int surfer) throws IndexOutOfBoundsException {
        Event asked = eventNumbered(event);
        refuseSurfer(surfer);
        return asked.pointsOf(surfer);
    }

    public int drop(int events) throws IllegalArgumentException {
        if (isOutside(events, 0, 3)) {
            throw new IllegalArgumentException("so many cannot be dropped");
        }
        return tour.dropFromNow(events);
    }

    public int points(int surfer) throws IndexOutOfBoundsException {
        refuseSurfer(surfer);
        return tour.pointsOf(surfer);
    }

    public int seed(int rank) throws NoSuchElementException {
        int found = tour.surferSeeded(rank);
        if (found == NONE) {
            throw new NoSuchElementException("no such seed");
        }
        return found;
    }

    public int cut(int seeds) throws IllegalArgumentException {
        if (isOutside(seeds, 1, MOST_SURFERS)) {
            throw new IllegalArgumentException("so many cannot be kept");
        }
        return tour.cutBehind(seeds);
    }

    public boolean isCut(int surfer) throws IndexOutOfBoundsException {
        refuseSurfer(surfer);
        return tour.isOff(surfer);
    }

    public long checksum() {
        long sum = 7;
        for (int number = 0; number < heats.length; number++) {
            Heat heat = heats[number];
            if (heat != null) {
                sum = heat.addedTo(sum);
            }
        }
        return sum;
    }

    public float openShare() throws ArithmeticException {
        if (heatCount == 0) {
            throw new ArithmeticException("there are no heats");
        }
        int running = 0;
        for (int number = 0; number < heats.length; number++) {
            Heat heat = heats[number];
            if (heat != null && heat.isRunning()) {
                running++;
            }
        }
        return (float) running / (float) heatCount;
    }

    public double meanScore(int heat) throws IndexOutOfBoundsException, ArithmeticException {
        Heat asked = heatNumbered(heat);
        int rides = asked.allRides();
        if (rides == 0) {
            throw new ArithmeticException("there are no scores");
        }
        return (double) asked.allScores() / (double) rides;
    }

    public boolean isSound() {
        for (int number = 0; number < heats.length; number++) {
            Heat heat = heats[number];
            if (heat != null && !(heat.hasRowOfActs(retold) && heat.hasOneOfEachRank() && heat.hasSoundNeeds())) {
                return false;
            }
        }
        return tour.hasOneWinnerEach();
    }

    private static boolean isOutside(int value, int least, int greatest) {
        return value < least || value > greatest;
    }

    private static void refuseMinute(int minute) {
        if (isOutside(minute, 0, LAST_MINUTE)) {
            throw new IllegalArgumentException("no such minute");
        }
    }

    private void refuseSurfer(int surfer) {
        if (!tour.hasSurfer(surfer)) {
            throw new IndexOutOfBoundsException("no such surfer");
        }
    }

    private void refuseFlat(Heat heat, int minute) {
        if (sea.heightAt(heat.where(), minute) == 0) {
            throw new UnsupportedOperationException("there is no wave");
        }
    }

    private void refuseMoreHeats(int more) {
        if (heatCount + more > heats.length) {
            throw new IllegalStateException("there would be more than 40 heats");
        }
    }

    private Bank bankNumbered(int number) {
        Bank bank = sea.bankAt(number);
        if (bank == null) {
            throw new IndexOutOfBoundsException("no such bank");
        }
        return bank;
    }

    private Heat heatNumbered(int number) {
        Heat heat = isOutside(number, 0, heats.length - 1) ? null : heats[number];
        if (heat == null) {
            throw new IndexOutOfBoundsException("no such heat");
        }
        return heat;
    }

    private Event eventNumbered(int number) {
        Event event = tour.eventAt(number);
        if (event == null) {
            throw new IndexOutOfBoundsException("no such event");
        }
        return event;
    }

    private int slotToTell(Heat heat, int surfer) {
        refuseSurfer(surfer);
        int slot = heat.slotOf(surfer);
        if (slot == NONE) {
            throw new NoSuchElementException("the surfer is not of the heat");
        }
        return slot;
    }

    private static int slotToAct(Heat heat, int surfer, int minute) {
        int slot = heat.slotOf(surfer);
        if (!heat.isActive(slot) || !heat.fits(minute) || heat.actCount() >= MOST_ACTS) {
            throw new UnsupportedOperationException("no such act can follow");
        }
        return slot;
    }

    private int addHeat(Heat heat) {
        int number = heatCount;
        if (number < heats.length) {
            heats[number] = heat;
            heatCount++;
        }
        return number;
    }

    private static int[] numbersIn(int surfers) {
        int[] numbers = new int[Integer.bitCount(surfers)];
        int found = 0;
        for (int number = 0; number < MOST_SURFERS; number++) {
            if ((surfers >> number & 1) == 1 && found < numbers.length) {
                numbers[found] = number;
                found++;
            }
        }
        return numbers;
    }

    private static final class Swell {
        final int number;
        final int height;
        final int period;
        final int direction;
        final int begin;
        final int end;

        Swell(int number, int height, int period, int direction, int begin, int end) {
            this.number = number;
            this.height = height;
            this.period = period;
            this.direction = direction;
            this.begin = begin;
            this.end = end;
        }

        boolean comesIn(int minute) {
            return minute >= begin && minute <= end && period > 0 && (7 * minute + 3 * number) % period == 0;
        }

        int heightAt(Bank bank) {
            int turn = Math.abs(direction - bank.direction);
            int angle = Math.min(turn, 360 - turn);
            int shared = height * bank.share / 100;
            return shared * (100 - angle / 2) / 100;
        }
    }

    private static final class Bank {
        final int direction;
        final int share;
        final int low;
        final int high;

        Bank(int direction, int share, int low, int high) {
            this.direction = direction;
            this.share = share;
            this.low = low;
            this.high = high;
        }
    }

    /** The swells and the banks, and the waves that they make. */
    private static final class Sea {
        private final Swell[] swells;
        private final Bank[] banks;
        private final int[] window;
        private int swellCount;
        private int bankCount;

        Sea() {
            swells = new Swell[6];
            banks = new Bank[4];
            window = new int[LONGEST_HEAT];
        }

        int addSwell(int height, int period, int direction, int begin, int end) {
            int number = swellCount;
            if (number >= swells.length) {
                return NONE;
            }
            swells[number] = new Swell(number, height, period, direction, begin, end);
            swellCount++;
            return number;
        }

        int addBank(int direction, int share, int low, int high) {
            int number = bankCount;
            if (number >= banks.length) {
                return NONE;
            }
            banks[number] = new Bank(direction, share, low, high);
            bankCount++;
            return number;
        }

        Bank bankAt(int number) {
            return isOutside(number, 0, banks.length - 1) ? null : banks[number];
        }

        static int tideAt(int minute) {
            return 400 * Math.abs(minute % 744 - 372) / 372;
        }

        int heightAt(Bank bank, int minute) {
            if (isOutside(tideAt(minute), bank.low, bank.high)) {
                return 0;
            }
            int highest = 0;
            for (int number = 0; number < swells.length; number++) {
                Swell swell = swells[number];
                if (swell != null && swell.comesIn(minute)) {
                    highest = Math.max(highest, swell.heightAt(bank));
                }
            }
            return highest < LEAST_WAVE ? 0 : highest;
        }

        int bestBeginning(Bank bank, int from, int to, int minutes) {
            if (isOutside(minutes, 1, window.length)) {
                return from;
            }
            int sum = 0;
            for (int minute = from; minute < from + minutes; minute++) {
                sum += seenAt(bank, minute, minutes);
            }
            int best = from;
            int greatest = sum;
            for (int begin = from + 1; begin <= to; begin++) {
                // The minute that comes in takes the cell of the one that goes out.
                int end = begin + minutes - 1;
                sum -= window[end % minutes];
                sum += seenAt(bank, end, minutes);
                if (sum > greatest) {
                    greatest = sum;
                    best = begin;
                }
            }
            return best;
        }

        private int seenAt(Bank bank, int minute, int minutes) {
            int height = heightAt(bank, minute);
            window[minute % minutes] = height;
            return height;
        }
    }

    /** The marks of the five judges, as they are typed. */
    private static final class Panel {
        private final int[] marks;
        private int typed;

        Panel() {
            marks = new int[30];
        }

        int type(int mark) {
            if (typed >= marks.length) {
                return NONE;
            }
            marks[typed] = mark;
            typed++;
            return typed;
        }

        int wipeAll() {
            int before = typed;
            typed = 0;
            return before;
        }

        int scoreFrom(int place) {
            if (isOutside(place, 0, typed - MARKS_OF_RIDE)) {
                return NONE;
            }
            int sum = 0;
            int least = GREATEST_MARK;
            int greatest = 0;
            for (int at = place; at < place + MARKS_OF_RIDE; at++) {
                int mark = marks[at];
                sum += mark;
                least = Math.min(least, mark);
                greatest = Math.max(greatest, mark);
            }
            return (sum - least - greatest + 1) / 3;
        }
    }

    private static final class Act {
        final int kind;
        final int slot;
        final int minute;
        final boolean isHindering;
        Act next;

        Act(int kind, int slot, int minute, boolean isHindering) {
            this.kind = kind;
            this.slot = slot;
            this.minute = minute;
            this.isHindering = isHindering;
        }
    }

    /**
     * The right to the next wave. The surfers of a heat are known by their slots, in the order in which they were
     * told. As NOT_IN_ROW is below every place in the row, the greater place is always the lesser right.
     */
    private static final class Row {
        private final int[] places;
        private int length;
        private int left;

        Row() {
            places = new int[MOST_IN_HEAT];
        }

        void begin(int surfers) {
            for (int slot = 0; slot < places.length; slot++) {
                places[slot] = slot < surfers ? NOT_IN_ROW : GONE;
            }
            length = 0;
            left = surfers;
        }

        int placeOf(int slot) {
            return slot < 0 || slot >= places.length ? GONE : places[slot];
        }

        int left() {
            return left;
        }

        int leader() {
            for (int slot = 0; slot < places.length; slot++) {
                if (length == left && places[slot] == 0) {
                    return slot;
                }
            }
            return NONE;
        }

        void sendBack(int slot) {
            int place = placeOf(slot);
            if (place == GONE) {
                return;
            }
            closeUp(place);
            places[slot] = length;
            length++;
            putLastOneAhead();
        }

        void giveAway(int slot) {
            if (leader() == slot) {
                sendBack(slot);
            }
        }

        void remove(int slot) {
            int place = placeOf(slot);
            if (place == GONE) {
                return;
            }
            closeUp(place);
            places[slot] = GONE;
            left--;
            putLastOneAhead();
        }

        void copyPlacesTo(int[] copy) {
            for (int slot = 0; slot < places.length && slot < copy.length; slot++) {
                copy[slot] = places[slot];
            }
        }

        /** What place the one who had this one has then is for the caller to say. */
        private void closeUp(int place) {
            if (place < 0) {
                return;
            }
            for (int slot = 0; slot < places.length; slot++) {
                if (places[slot] > place) {
                    places[slot]--;
                }
            }
            length--;
        }

        private void putLastOneAhead() {
            if (left - length != 1) {
                return;
            }
            for (int slot = 0; slot < places.length; slot++) {
                if (places[slot] != GONE) {
                    places[slot]++;
                }
            }
            length++;
        }
    }

    /** What the acts of a heat, told one by one, make of its row and of its interferences. */
    private static final class Course {
        private final Row row;
        private final int[] placesAhead;
        private final int[] lesserRights;
        private final int[] laterRides;
        private int waveMinute;
        private int waveRides;
        private int waveRider;

        Course() {
            row = new Row();
            placesAhead = new int[MOST_IN_HEAT];
            lesserRights = new int[MOST_IN_HEAT];
            laterRides = new int[MOST_IN_HEAT];
        }

        void begin(int surfers) {
            row.begin(surfers);
            for (int slot = 0; slot < MOST_IN_HEAT; slot++) {
                lesserRights[slot] = 0;
                laterRides[slot] = 0;
            }
            waveMinute = NONE;
        }

        Row row() {
            return row;
        }

        int countOf(int slot, char kind) {
            if (slot < 0 || slot >= MOST_IN_HEAT) {
                return 0;
            }
            return kind == 'p' ? lesserRights[slot] : laterRides[slot];
        }

        boolean isFreeWave(int slot, int minute) {
            return minute != waveMinute || waveRides < 2 && waveRider != slot;
        }

        void tell(Act act) {
            switch (act.kind) {
                case RIDE:
                    tellRide(act);
                    break;
                case MISS:
                case BLOCK:
                    row.giveAway(act.slot);
                    break;
                case SUSPEND:
                    row.sendBack(act.slot);
                    break;
                default:
                    row.remove(act.slot);
                    break;
            }
        }

        private void tellRide(Act act) {
            boolean isSecond = act.minute == waveMinute;
            if (isSecond) {
                waveRides++;
            } else {
                row.copyPlacesTo(placesAhead);
                waveMinute = act.minute;
                waveRider = act.slot;
                waveRides = 1;
            }
            row.sendBack(act.slot);
            if (isSecond && act.isHindering) {
                blame(waveRider, act.slot);
            }
        }

        private void blame(int firstRider, int secondRider) {
            if (firstRider < 0 || firstRider >= MOST_IN_HEAT || secondRider < 0 || secondRider >= MOST_IN_HEAT) {
                return;
            }
            int firstPlace = placesAhead[firstRider];
            int secondPlace = placesAhead[secondRider];
            int blamed = firstPlace > secondPlace ? firstRider : secondRider;
            if (firstPlace == secondPlace) {
                laterRides[blamed]++;
            } else {
                lesserRights[blamed]++;
            }
            if (lesserRights[blamed] + laterRides[blamed] >= 2) {
                row.remove(blamed);
            }
        }
    }

    /** The scores of one surfer in a heat, the greatest one first, and what of them counts. */
    private static final class Card {
        private final int[] scores;
        private int count;
        private int sum;
        private int counted;

        Card() {
            // A surfer rides once in a minute, so there are no more scores than minutes.
            scores = new int[LONGEST_HEAT];
        }

        void enter(int score) {
            if (count >= scores.length) {
                return;
            }
            int at = count;
            while (at > 0 && scores[at - 1] < score) {
                scores[at] = scores[at - 1];
                at--;
            }
            scores[at] = score;
            count++;
            sum += score;
        }

        int scoreAt(int index) {
            return index < 0 || index >= count ? 0 : scores[index];
        }

        int count() {
            return count;
        }

        int sum() {
            return sum;
        }

        int counted() {
            return counted;
        }

        void countAs(int counting) {
            counted = counting;
        }

        /** Above 0 if this card is ahead of one that counts so much and has these two best scores. */
        int compareWith(int otherCounted, int otherBest, int otherSecond) {
            int order = Integer.compare(counted, otherCounted);
            if (order == 0) {
                order = Integer.compare(scoreAt(0), otherBest);
            }
            return order == 0 ? Integer.compare(scoreAt(1), otherSecond) : order;
        }
    }

    private static final class Heat {
        private final Bank bank;
        private final int minutes;
        private final int[] surfers;
        private final Card[] cards;
        private final int[] ranks;
        private final Course course;
        private int begin;
        private int latest;
        private Act firstAct;
        private Act lastAct;
        private int actCount;
        private boolean isRunning;

        Heat(Bank bank, int begin, int minutes, int[] surfers) {
            this.bank = bank;
            this.minutes = minutes;
            this.surfers = surfers;
            cards = new Card[surfers.length];
            ranks = new int[surfers.length];
            for (int slot = 0; slot < surfers.length; slot++) {
                cards[slot] = new Card();
                ranks[slot] = slot + 1;
            }
            course = new Course();
            course.begin(surfers.length);
            this.begin = begin;
            latest = begin;
            isRunning = true;
        }

        Bank where() {
            return bank;
        }

        boolean isRunning() {
            return isRunning;
        }

        void shut() {
            isRunning = false;
        }

        int slotOf(int surfer) {
            for (int slot = 0; slot < surfers.length; slot++) {
                if (surfers[slot] == surfer) {
                    return slot;
                }
            }
            return NONE;
        }

        int surferTold(int slot) {
            return slot < 0 || slot >= surfers.length ? NONE : surfers[slot];
        }

        int actCount() {
            return actCount;
        }

        int left() {
            return course.row().left();
        }

        int placeOf(int slot) {
            return course.row().placeOf(slot);
        }

        int leader() {
            return surferTold(course.row().leader());
        }

        int interferences(int slot, char kind) {
            return course.countOf(slot, kind);
        }

        boolean isActive(int slot) {
            return isRunning && placeOf(slot) != GONE;
        }

        boolean fits(int minute) {
            return minute >= latest && minute <= begin + minutes - 1;
        }

        boolean isFreeWave(int slot, int minute) {
            return course.isFreeWave(slot, minute);
        }

        void tell(int kind, int slot, int minute, boolean isHindering) {
            Act act = new Act(kind, slot, minute, isHindering);
            if (lastAct == null) {
                firstAct = act;
            } else {
                lastAct.next = act;
            }
            lastAct = act;
            actCount++;
            latest = minute;
            course.tell(act);
        }

        /** Asked for behind the ride itself, as an interference changes what the cards count. */
        void enter(int slot, int score) {
            Card card = cardOf(slot);
            if (card != null) {
                card.enter(score);
            }
            countAnew();
            rankAnew();
        }

        boolean canBeginAnew(int minute) {
            return isRunning && fits(minute) && allRides() == 0 && minute - begin <= LATEST_RESTART;
        }

        /** The cards and the ranks stay, as it is only asked for while nobody rode. */
        void beginAnew(int minute) {
            begin = minute;
            latest = minute;
            firstAct = null;
            lastAct = null;
            actCount = 0;
            course.begin(surfers.length);
        }

        int rideCount(int slot) {
            Card card = cardOf(slot);
            return card == null ? 0 : card.count();
        }

        int scoreAt(int slot, int index) {
            Card card = cardOf(slot);
            return card == null ? 0 : card.scoreAt(index);
        }

        int countedBy(int slot) {
            Card card = cardOf(slot);
            return card == null ? 0 : card.counted();
        }

        int allRides() {
            int rides = 0;
            for (int slot = 0; slot < surfers.length; slot++) {
                rides += rideCount(slot);
            }
            return rides;
        }

        int allScores() {
            int sum = 0;
            for (int slot = 0; slot < surfers.length; slot++) {
                Card card = cardOf(slot);
                sum += card == null ? 0 : card.sum();
            }
            return sum;
        }

        int rankOf(int slot) {
            return slot < 0 || slot >= ranks.length ? NONE : ranks[slot];
        }

        int surferRanked(int rank) {
            for (int slot = 0; slot < surfers.length && slot < ranks.length; slot++) {
                if (ranks[slot] == rank) {
                    return surfers[slot];
                }
            }
            return NONE;
        }

        /** More score is never a worse rank, so the scores that do not do are all below those that do. */
        int neededFor(int slot, int rank) {
            if (rankAfter(slot, GREATEST_MARK) > rank) {
                return NONE;
            }
            int failing = 0;
            for (int step = 512; step > 0; step /= 2) {
                if (failing + step <= GREATEST_MARK && rankAfter(slot, failing + step - 1) > rank) {
                    failing += step;
                }
            }
            return failing;
        }

        long addedTo(long sum) {
            long added = sum;
            for (int slot = 0; slot < surfers.length; slot++) {
                added = 31 * added + countedBy(slot);
                added = 31 * added + placeOf(slot) + 3;
            }
            return added;
        }

        boolean hasRowOfActs(Course retold) {
            retold.begin(surfers.length);
            for (Act act = firstAct; act != null; act = act.next) {
                retold.tell(act);
            }
            for (int slot = 0; slot < surfers.length; slot++) {
                if (retold.row().placeOf(slot) != placeOf(slot)) {
                    return false;
                }
            }
            return true;
        }

        boolean hasOneOfEachRank() {
            for (int slot = 0; slot < ranks.length; slot++) {
                for (int other = 0; other < slot; other++) {
                    if (ranks[other] == ranks[slot]) {
                        return false;
                    }
                }
            }
            return true;
        }

        boolean hasSoundNeeds() {
            for (int slot = 0; slot < ranks.length; slot++) {
                int better = ranks[slot] - 1;
                if (better > 0 && isActive(slot) && !isSoundNeed(slot, better, neededFor(slot, better))) {
                    return false;
                }
            }
            return true;
        }

        private boolean isSoundNeed(int slot, int rank, int needed) {
            if (needed == NONE) {
                return rankAfter(slot, GREATEST_MARK) > rank;
            }
            return rankAfter(slot, needed) <= rank && (needed == 0 || rankAfter(slot, needed - 1) > rank);
        }

        private Card cardOf(int slot) {
            return slot < 0 || slot >= cards.length ? null : cards[slot];
        }

        private void countAnew() {
            for (int slot = 0; slot < cards.length; slot++) {
                Card card = cards[slot];
                if (card != null) {
                    card.countAs(countWith(slot, card.scoreAt(0), card.scoreAt(1)));
                }
            }
        }

        private void rankAnew() {
            for (int slot = 0; slot < ranks.length; slot++) {
                ranks[slot] = rankWith(slot, scoreAt(slot, 0), scoreAt(slot, 1));
            }
        }

        private int countWith(int slot, int best, int second) {
            if (course.countOf(slot, 'p') > 0) {
                return best;
            }
            return best + (course.countOf(slot, 'n') > 0 ? second / 2 : second);
        }

        private int rankAfter(int slot, int score) {
            int best = scoreAt(slot, 0);
            int second = scoreAt(slot, 1);
            if (score > best) {
                return rankWith(slot, score, best);
            }
            return rankWith(slot, best, Math.max(second, score));
        }

        private int rankWith(int slot, int best, int second) {
            int counted = countWith(slot, best, second);
            int rank = 1;
            for (int other = 0; other < cards.length; other++) {
                Card card = cards[other];
                if (other != slot && card != null) {
                    int order = card.compareWith(counted, best, second);
                    rank += order > 0 || order == 0 && other < slot ? 1 : 0;
                }
            }
            return rank;
        }
    }

    /** An event of twelve: its draw, round by round, and its points. */
    private static final class Event {
        private static final int LAST_ROUND = 5;
        private static final int HEATS = 15;
        private static final int LENGTH_OF_HEAT = 30;
        private static final int[] HEATS_OF_ROUND = {4, 4, 4, 2, 1};
        private static final int[] HEATS_AHEAD_OF_ROUND = {0, 4, 8, 12, 14};
        private static final int[] POINTS_OF_LOSER = {0, 3320, 4745, 6085, 7800};
        private static final int POINTS_OF_WINNER = 10000;

        private final Bank bank;
        private final int[] seeds;
        private final Heat[] heats;
        private final int[] firstNumbers;
        private final int[] points;
        private int roundCount;
        private boolean isOver;

        Event(Bank bank, int[] seeds) {
            this.bank = bank;
            this.seeds = seeds;
            heats = new Heat[HEATS];
            firstNumbers = new int[LAST_ROUND];
            points = new int[MOST_SURFERS];
        }

        int roundCount() {
            return roundCount;
        }

        static int heatsOf(int round) {
            return round < 1 || round > HEATS_OF_ROUND.length ? 0 : HEATS_OF_ROUND[round - 1];
        }

        int heatNumber(int round, int index) {
            if (round < 1 || round > roundCount || round > firstNumbers.length
                    || isOutside(index, 0, heatsOf(round) - 1)) {
                return NONE;
            }
            return firstNumbers[round - 1] + index;
        }

        int pointsOf(int surfer) {
            return surfer < 0 || surfer >= points.length ? 0 : points[surfer];
        }

        boolean isReady() {
            return roundCount < LAST_ROUND && isRoundClosed();
        }

        boolean isDue() {
            return !isOver && roundCount == LAST_ROUND && isRoundClosed();
        }

        Heat drawHeat(int index, int begin) {
            Heat heat = new Heat(bank, begin, LENGTH_OF_HEAT, drawnFor(index));
            int at = cellOf(roundCount + 1, index);
            if (at != NONE) {
                heats[at] = heat;
            }
            return heat;
        }

        void endDraw(int firstNumber) {
            if (roundCount < firstNumbers.length) {
                firstNumbers[roundCount] = firstNumber;
                roundCount++;
            }
        }

        void givePoints() {
            for (int round = 2; round <= POINTS_OF_LOSER.length; round++) {
                for (int index = 0; index < heatsOf(round); index++) {
                    give(rankedIn(round, index, 2), POINTS_OF_LOSER[round - 1]);
                }
            }
            give(rankedIn(LAST_ROUND, 0, 1), POINTS_OF_WINNER);
            isOver = true;
        }

        boolean hasOneWinner() {
            int winners = 0;
            for (int surfer = 0; surfer < points.length; surfer++) {
                if (points[surfer] == POINTS_OF_WINNER) {
                    winners++;
                }
            }
            return !isOver || winners == 1;
        }

        private void give(int surfer, int given) {
            if (surfer >= 0 && surfer < points.length) {
                points[surfer] = given;
            }
        }

        private boolean isRoundClosed() {
            for (int index = 0; index < heatsOf(roundCount); index++) {
                Heat heat = heatAt(roundCount, index);
                if (heat != null && heat.isRunning()) {
                    return false;
                }
            }
            return true;
        }

        private int[] drawnFor(int index) {
            switch (roundCount) {
                case 0:
                    return new int[] {seedAt(index), seedAt(7 - index), seedAt(8 + index)};
                case 1:
                    return inSeedOrder(rankedIn(1, index, 2), rankedIn(1, 3 - index, 3));
                case 2:
                    return inSeedOrder(rankedIn(1, index, 1), rankedIn(2, 3 - index, 1));
                case 3:
                    return inSeedOrder(rankedIn(3, index, 1), rankedIn(3, 3 - index, 1));
                default:
                    return inSeedOrder(rankedIn(4, 0, 1), rankedIn(4, 1, 1));
            }
        }

        private int[] inSeedOrder(int one, int other) {
            return seedOf(one) < seedOf(other) ? new int[] {one, other} : new int[] {other, one};
        }

        private int seedAt(int seed) {
            return seed < 0 || seed >= seeds.length ? NONE : seeds[seed];
        }

        private int seedOf(int surfer) {
            for (int seed = 0; seed < seeds.length; seed++) {
                if (seeds[seed] == surfer) {
                    return seed;
                }
            }
            return seeds.length;
        }

        private int rankedIn(int round, int index, int rank) {
            Heat heat = heatAt(round, index);
            return heat == null ? NONE : heat.surferRanked(rank);
        }

        private Heat heatAt(int round, int index) {
            int at = cellOf(round, index);
            return at == NONE ? null : heats[at];
        }

        private int cellOf(int round, int index) {
            if (round < 1 || round > HEATS_AHEAD_OF_ROUND.length || index < 0) {
                return NONE;
            }
            int at = HEATS_AHEAD_OF_ROUND[round - 1] + index;
            return at < heats.length ? at : NONE;
        }
    }

    /** The surfers, their events and their seeds. */
    private static final class Tour {
        private final int[] pointsBefore;
        private final boolean[] isOff;
        private final Event[] events;
        private final int[] results;
        private final int[] points;
        private final int[] seeds;
        private int surferCount;
        private int eventCount;
        private int dropped;

        Tour() {
            pointsBefore = new int[MOST_SURFERS];
            isOff = new boolean[MOST_SURFERS];
            events = new Event[MOST_EVENTS];
            results = new int[MOST_EVENTS];
            points = new int[MOST_SURFERS];
            seeds = new int[MOST_SURFERS];
        }

        int addSurfer(int before) {
            int number = surferCount;
            if (number >= pointsBefore.length) {
                return NONE;
            }
            pointsBefore[number] = before;
            surferCount++;
            return number;
        }

        boolean hasSurfer(int number) {
            return number >= 0 && number < surferCount;
        }

        boolean hasAll(int sumOfPowers) {
            return sumOfPowers >= 0 && sumOfPowers < 1 << surferCount;
        }

        int addEvent(Bank bank) {
            int number = eventCount;
            if (number >= events.length) {
                return NONE;
            }
            events[number] = new Event(bank, firstUncut());
            eventCount++;
            return number;
        }

        Event eventAt(int number) {
            return isOutside(number, 0, events.length - 1) ? null : events[number];
        }

        boolean isOff(int surfer) {
            return hasSurfer(surfer) && isOff[surfer];
        }

        int uncut() {
            int uncut = 0;
            for (int surfer = 0; surfer < surferCount; surfer++) {
                if (!isOff[surfer]) {
                    uncut++;
                }
            }
            return uncut;
        }

        int dropFromNow(int count) {
            int before = dropped;
            dropped = count;
            return before;
        }

        int pointsOf(int surfer) {
            sortResults(surfer);
            int sum = 0;
            for (int index = 0; index < eventCount - dropped; index++) {
                sum += results[index];
            }
            return sum;
        }

        int surferSeeded(int rank) {
            if (!hasSurfer(rank)) {
                return NONE;
            }
            sortSeeds();
            return seeds[rank];
        }

        int cutBehind(int kept) {
            sortSeeds();
            int cut = 0;
            for (int rank = kept; rank < surferCount; rank++) {
                int surfer = seeds[rank];
                if (hasSurfer(surfer) && !isOff[surfer]) {
                    isOff[surfer] = true;
                    cut++;
                }
            }
            return cut;
        }

        void giveDuePoints() {
            for (int number = 0; number < events.length; number++) {
                Event event = events[number];
                if (event != null && event.isDue()) {
                    event.givePoints();
                }
            }
        }

        boolean hasOneWinnerEach() {
            for (int number = 0; number < events.length; number++) {
                Event event = events[number];
                if (event != null && !event.hasOneWinner()) {
                    return false;
                }
            }
            return true;
        }

        private int[] firstUncut() {
            sortSeeds();
            int[] field = new int[EVENT_SURFERS];
            int found = 0;
            for (int rank = 0; rank < surferCount; rank++) {
                int surfer = seeds[rank];
                if (!isOff(surfer) && found < field.length) {
                    field[found] = surfer;
                    found++;
                }
            }
            return field;
        }

        private void sortResults(int surfer) {
            for (int number = 0; number < eventCount; number++) {
                Event event = events[number];
                int result = event == null ? 0 : event.pointsOf(surfer);
                int at = number;
                while (at > 0 && results[at - 1] < result) {
                    results[at] = results[at - 1];
                    at--;
                }
                results[at] = result;
            }
        }

        private void sortSeeds() {
            for (int surfer = 0; surfer < surferCount; surfer++) {
                points[surfer] = pointsOf(surfer);
                int at = surfer;
                while (at > 0 && isAhead(surfer, seeds[at - 1])) {
                    seeds[at] = seeds[at - 1];
                    at--;
                }
                seeds[at] = surfer;
            }
        }

        /** Seeds are put in by rising numbers, so of two who are alike the one put in before stays ahead. */
        private boolean isAhead(int surfer, int before) {
            if (!hasSurfer(surfer) || !hasSurfer(before)) {
                return false;
            }
            if (points[surfer] != points[before]) {
                return points[surfer] > points[before];
            }
            return pointsBefore[surfer] > pointsBefore[before];
        }
    }
}
