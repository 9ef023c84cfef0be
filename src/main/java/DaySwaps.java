import java.util.Arrays;

/** Changes in a day of rounds: the plan that moves the fewest stops, at least cost. */
public final class DaySwaps {
    public static final int NONE = -1;

    private static final int MOST_VEHICLES = 3;
    private static final int MOST_STOPS = 8;
    private static final int PLACES = 10;
    private static final int YARD = 0;
    private static final int NOT_OUT = 8;
    private static final int FIRST_WAY = 60;
    private static final int FIRST_HOURS = 28800;
    private static final int LONGEST_LEG = 10000;
    private static final int LONGEST_DAY = 100000;
    private static final int MOST_KEPT = 6;
    private static final int MOST_BESIDE = 4;
    private static final int FROZEN_IS_BLOCKED = -2;
    private static final int FROZEN_IS_OUT = -3;
    private static final int NO_PLAN = -4;

    private final Day day;
    private final Search search;
    private final Shelf kept;
    private final Shelf beside;
    private final int[] plan;
    private final int[] noticed;
    private final int[] notices;

    public DaySwaps(int vehicles) {
        day = new Day(isWithin(vehicles, 1, MOST_VEHICLES) ? vehicles : 1);
        search = new Search(day);
        kept = new Shelf(MOST_KEPT);
        beside = new Shelf(MOST_BESIDE);
        plan = new int[MOST_STOPS];
        noticed = new int[MOST_STOPS];
        notices = new int[MOST_STOPS];
    }

    public int stop(int vehicle, int place, int seconds) {
        if (day.stops >= MOST_STOPS || !day.isVehicle(vehicle)) {
            return NONE;
        }
        if (!isPlace(place) || !isWithin(seconds, 0, LONGEST_LEG)) {
            return NONE;
        }
        int stop = day.tell(vehicle, place, seconds);
        plan[stop] = vehicle;
        noticed[stop] = vehicle;
        return stop;
    }

    public boolean freeze(int stop, boolean is) {
        if (!day.isStop(stop)) {
            return false;
        }
        day.frozen[stop] = is;
        return true;
    }

    public boolean block(int stop, boolean is) {
        if (!day.isStop(stop)) {
            return false;
        }
        day.blocked[stop] = is;
        return true;
    }

    public boolean out(int vehicle, int from) {
        if (!day.isVehicle(vehicle) || !isWithin(from, 0, NOT_OUT)) {
            return false;
        }
        day.outFrom[vehicle] = from;
        return true;
    }

    public boolean way(int a, int b, int seconds) {
        if (!isPlace(a) || !isPlace(b) || a == b || !isWithin(seconds, 0, LONGEST_LEG)) {
            return false;
        }
        day.ways[a][b] = seconds;
        day.ways[b][a] = seconds;
        return true;
    }

    public boolean hours(int vehicle, int seconds) {
        if (!day.isVehicle(vehicle) || !isWithin(seconds, 0, LONGEST_DAY)) {
            return false;
        }
        day.hoursOf[vehicle] = seconds;
        return true;
    }

    public boolean extra(int seconds) {
        if (!isWithin(seconds, 0, LONGEST_DAY)) {
            return false;
        }
        day.mostOver = seconds;
        return true;
    }

    public int run() {
        long found = search.least();
        if (found >= Search.NEVER) {
            return whyNoPlan();
        }
        kept.putLatest(plan, day.stops);
        for (int stop = 0; stop < day.stops; stop++) {
            plan[stop] = Search.vehicleIn(found, stop);
        }
        return Integer.bitCount(movedSet());
    }

    public int vehicleOf(int stop) {
        return day.isStop(stop) ? plan[stop] : NONE;
    }

    public int place(int stop) {
        if (!day.isStop(stop) || !day.isVehicle(plan[stop])) {
            return NONE;
        }
        return day.placeInRound(stop, plan[stop], setOf(plan[stop]));
    }

    public int moved(int k) {
        return stopAt(movedSet(), k);
    }

    public int carried(int k) {
        return stopAt(setOf(day.vehicles), k);
    }

    public int send() {
        int count = 0;
        for (int stop = 0; stop < day.stops; stop++) {
            if (plan[stop] != noticed[stop]) {
                noticed[stop] = plan[stop];
                notices[stop]++;
                count++;
            }
        }
        return count;
    }

    public int sent(int stop) {
        return day.isStop(stop) ? notices[stop] : NONE;
    }

    public boolean undo() {
        if (kept.size == 0) {
            return false;
        }
        int latest = kept.size - 1;
        for (int stop = 0; stop < day.stops; stop++) {
            boolean wasTold = stop < kept.stopsOf[latest];
            plan[stop] = wasTold ? kept.plans[latest][stop] : day.rowOf[stop];
        }
        kept.size = latest;
        return true;
    }

    public int copy() {
        if (beside.size >= MOST_BESIDE) {
            return NONE;
        }
        beside.putLatest(plan, day.stops);
        return beside.size - 1;
    }

    public int compare(int copy, int k) {
        if (!isWithin(copy, 0, beside.size - 1)) {
            return NONE;
        }
        int differing = 0;
        for (int stop = 0; stop < beside.stopsOf[copy]; stop++) {
            if (beside.plans[copy][stop] != plan[stop]) {
                differing |= 1 << stop;
            }
        }
        return stopAt(differing, k);
    }

    public long cost() {
        long sum = 0;
        for (int vehicle = 0; vehicle < day.vehicles; vehicle++) {
            int time = day.timeOf(vehicle, setOf(vehicle));
            sum += time + day.overHours(vehicle, time);
        }
        return sum;
    }

    public int overtime(int vehicle) {
        if (!day.isVehicle(vehicle)) {
            return NONE;
        }
        return day.overHours(vehicle, day.timeOf(vehicle, setOf(vehicle)));
    }

    public int next() {
        int count = Integer.bitCount(setOf(day.vehicles));
        for (int vehicle = 0; vehicle < day.vehicles; vehicle++) {
            day.prepareRow(vehicle, setOf(day.vehicles), setOf(vehicle));
        }
        day.turn();
        for (int stop = 0; stop < day.stops; stop++) {
            plan[stop] = day.rowOf[stop];
        }
        kept.size = 0;
        beside.size = 0;
        return count;
    }

    private int whyNoPlan() {
        for (int stop = 0; stop < day.stops; stop++) {
            if (day.frozen[stop] && day.blocked[stop]) {
                return FROZEN_IS_BLOCKED;
            }
        }
        for (int stop = 0; stop < day.stops; stop++) {
            if (day.frozen[stop] && !day.canDo(day.rowOf[stop], stop)) {
                return FROZEN_IS_OUT;
            }
        }
        return NO_PLAN;
    }

    /** The stops that the plan gives a vehicle, or carries, as a set of bits. */
    private int setOf(int vehicle) {
        int set = 0;
        for (int stop = 0; stop < day.stops; stop++) {
            if (plan[stop] == vehicle) {
                set |= 1 << stop;
            }
        }
        return set;
    }

    private int movedSet() {
        int set = 0;
        for (int stop = 0; stop < day.stops; stop++) {
            if (plan[stop] != day.rowOf[stop]) {
                set |= 1 << stop;
            }
        }
        return set;
    }

    private static int stopAt(int set, int k) {
        int before = 0;
        for (int stop = 0; stop < MOST_STOPS; stop++) {
            if (isIn(set, stop)) {
                if (before == k) {
                    return stop;
                }
                before++;
            }
        }
        return NONE;
    }

    private static boolean isIn(int set, int stop) {
        return ((set >> stop) & 1) == 1;
    }

    private static boolean isPlace(int place) {
        return isWithin(place, 0, PLACES - 1);
    }

    private static boolean isWithin(int value, int least, int most) {
        return value >= least && value <= most;
    }

    /** All that was told of the day: stops, rows, ways, hours and what has changed. */
    private static final class Day {
        private final int vehicles;
        private int stops;
        private final int[] placeOf = new int[MOST_STOPS];
        private final int[] serviceOf = new int[MOST_STOPS];
        private final int[] rowOf = new int[MOST_STOPS];
        private final int[] rankOf = new int[MOST_STOPS];
        private final boolean[] frozen = new boolean[MOST_STOPS];
        private final boolean[] blocked = new boolean[MOST_STOPS];
        private final int[][] rows = new int[MOST_VEHICLES][MOST_STOPS];
        private final int[] lengthOf = new int[MOST_VEHICLES];
        private final int[][] newRows = new int[MOST_VEHICLES][MOST_STOPS];
        private final int[] newLengthOf = new int[MOST_VEHICLES];
        private final int[] outFrom = new int[MOST_VEHICLES];
        private final int[] hoursOf = new int[MOST_VEHICLES];
        private final int[][] ways = new int[PLACES][PLACES];
        private final int[] round = new int[MOST_STOPS];
        private int mostOver;

        private Day(int vehicles) {
            this.vehicles = vehicles;
            Arrays.fill(outFrom, NOT_OUT);
            Arrays.fill(hoursOf, FIRST_HOURS);
            for (int place = 0; place < PLACES; place++) {
                Arrays.fill(ways[place], FIRST_WAY);
                ways[place][place] = 0;
            }
        }

        private boolean isVehicle(int vehicle) {
            return isWithin(vehicle, 0, vehicles - 1);
        }

        private boolean isStop(int stop) {
            return isWithin(stop, 0, stops - 1);
        }

        private int tell(int vehicle, int place, int seconds) {
            int stop = stops;
            placeOf[stop] = place;
            serviceOf[stop] = seconds;
            append(stop, vehicle);
            stops++;
            return stop;
        }

        private void append(int stop, int vehicle) {
            int rank = lengthOf[vehicle];
            rows[vehicle][rank] = stop;
            rowOf[stop] = vehicle;
            rankOf[stop] = rank;
            lengthOf[vehicle] = rank + 1;
        }

        private boolean canDo(int vehicle, int stop) {
            if (outFrom[vehicle] == NOT_OUT) {
                return true;
            }
            return rowOf[stop] == vehicle && rankOf[stop] < outFrom[vehicle];
        }

        /** Whether a plan that holds may give a stop this vehicle, or carry it. */
        private boolean mayHave(int stop, int vehicle) {
            if (frozen[stop] && rowOf[stop] != vehicle) {
                return false;
            }
            return vehicle == vehicles || (!blocked[stop] && canDo(vehicle, stop));
        }

        /** Writes a vehicle's round over a set of stops behind what the list has; answers its new length. */
        private int addRound(int vehicle, int set, int[] list, int length) {
            int end = length;
            for (int rank = 0; rank < lengthOf[vehicle]; rank++) {
                if (isIn(set, rows[vehicle][rank])) {
                    list[end++] = rows[vehicle][rank];
                }
            }
            for (int stop = 0; stop < stops; stop++) {
                if (isIn(set, stop) && rowOf[stop] != vehicle) {
                    list[end++] = stop;
                }
            }
            return end;
        }

        private int placeInRound(int stop, int vehicle, int set) {
            int length = addRound(vehicle, set, round, 0);
            for (int i = 0; i < length; i++) {
                if (round[i] == stop) {
                    return i;
                }
            }
            return NONE;
        }

        private int timeOf(int vehicle, int set) {
            int length = addRound(vehicle, set, round, 0);
            int time = 0;
            int at = YARD;
            for (int i = 0; i < length; i++) {
                int to = placeOf[round[i]];
                time += ways[at][to] + serviceOf[round[i]];
                at = to;
            }
            return time + ways[at][YARD];
        }

        private int overHours(int vehicle, int time) {
            return Math.max(0, time - hoursOf[vehicle]);
        }

        /** A vehicle's row of the next day; the rows stay until all are prepared, as rounds hang on them. */
        private void prepareRow(int vehicle, int carriedSet, int givenSet) {
            int length = 0;
            for (int stop = 0; stop < stops; stop++) {
                if (isIn(carriedSet, stop) && rowOf[stop] == vehicle) {
                    newRows[vehicle][length++] = stop;
                }
            }
            newLengthOf[vehicle] = addRound(vehicle, givenSet, newRows[vehicle], length);
        }

        /** The prepared rows become the rows, and what had changed in the day is over. */
        private void turn() {
            for (int vehicle = 0; vehicle < vehicles; vehicle++) {
                lengthOf[vehicle] = 0;
                outFrom[vehicle] = NOT_OUT;
                for (int rank = 0; rank < newLengthOf[vehicle]; rank++) {
                    append(newRows[vehicle][rank], vehicle);
                }
            }
            for (int stop = 0; stop < stops; stop++) {
                frozen[stop] = false;
                blocked[stop] = false;
            }
        }
    }

    /** Plans that are held, the oldest first, each with how many stops there were. */
    private static final class Shelf {
        private final int[][] plans;
        private final int[] stopsOf;
        private int size;

        private Shelf(int most) {
            plans = new int[most][MOST_STOPS];
            stopsOf = new int[most];
        }

        /** A full shelf loses its oldest plan. */
        private void putLatest(int[] plan, int stops) {
            if (size == plans.length) {
                for (int i = 1; i < size; i++) {
                    System.arraycopy(plans[i], 0, plans[i - 1], 0, MOST_STOPS);
                    stopsOf[i - 1] = stopsOf[i];
                }
                size--;
            }
            System.arraycopy(plan, 0, plans[size], 0, MOST_STOPS);
            stopsOf[size] = stops;
            size++;
        }
    }

    /**
     * Finds the best plan. What a vehicle with a set of stops adds to a plan is one number, its
     * weight: from the high bits down the stops moved, the cost, and two bits for each stop's
     * vehicle, stop 0 highest. Weights of parts add up without a carry from one field into
     * another, so the least sum is the best plan, and its low bits tell that plan.
     */
    private static final class Search {
        private static final long NEVER = 1L << 60;
        private static final int COST_SHIFT = 2 * MOST_STOPS;
        private static final int MOVED_SHIFT = COST_SHIFT + 24;

        private final Day day;
        private final long[] weights = new long[1 << MOST_STOPS];
        private final long[] best = new long[1 << MOST_STOPS];

        private Search(Day day) {
            this.day = day;
        }

        /** The weight of the best plan; NEVER when no plan holds. */
        private long least() {
            int sets = 1 << day.stops;
            for (int set = 0; set < sets; set++) {
                best[set] = weightOf(day.vehicles, set);
            }
            for (int vehicle = 0; vehicle < day.vehicles; vehicle++) {
                for (int set = 0; set < sets; set++) {
                    weights[set] = weightOf(vehicle, set);
                }
                join(sets);
            }
            return best[sets - 1];
        }

        /**
         * Takes one vehicle more into best: from the largest set down, so that a set's parts are
         * still without it. The parts of a set come in falling order, and end at 0.
         */
        private void join(int sets) {
            for (int set = sets - 1; set > 0; set--) {
                long least = best[set];
                for (int part = set; part > 0; part = (part - 1) & set) {
                    least = Math.min(least, best[set ^ part] + weights[part]);
                }
                best[set] = least;
            }
        }

        private long weightOf(int vehicle, int set) {
            long weight = 0;
            for (int stop = 0; stop < day.stops; stop++) {
                if (isIn(set, stop)) {
                    if (!day.mayHave(stop, vehicle)) {
                        return NEVER;
                    }
                    weight += (long) vehicle << digitShift(stop);
                    weight += day.rowOf[stop] == vehicle ? 0 : 1L << MOVED_SHIFT;
                }
            }
            if (vehicle == day.vehicles) {
                return weight;
            }
            int time = day.timeOf(vehicle, set);
            int over = day.overHours(vehicle, time);
            return over > day.mostOver ? NEVER : weight + ((long) (time + over) << COST_SHIFT);
        }

        private static int vehicleIn(long weight, int stop) {
            return (int) (weight >> digitShift(stop)) & 3;
        }

        private static int digitShift(int stop) {
            return 2 * (MOST_STOPS - 1 - stop);
        }
    }
}
