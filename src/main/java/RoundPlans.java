import java.util.Arrays;

/** Rounds of vehicles: who drives where, in which order, at least cost, exactly. */
public final class RoundPlans {
    public static final int NONE = -1;

    private static final int MOST_STOPS = 7;
    private static final int MOST_VEHICLES = 3;
    private static final int SKIPPED = 3;
    private static final int PLACES = 8;
    private static final int YARD = 7;
    private static final int FIRST_WAY = 100;
    private static final int LAST_SECOND = 86399;
    private static final int MOST_STOP_KILOGRAMS = 100000;
    private static final int MOST_SERVICE = 10000;
    private static final long MOST_PENALTY = 1000000000L;
    private static final int MOST_VEHICLE_KILOGRAMS = 1000000;
    private static final int MOST_RATE = 1000;
    private static final int MOST_WAY = 50000;

    // A set of stops is an int whose bit k stands for stop k.
    private static final int SETS = 1 << MOST_STOPS;

    // Later than any second of a day, and small enough to add a way to it.
    private static final int NEVER = 1 << 30;

    // A plan's vehicles as a number: two bits for each stop, stop 0 highest.
    private static final int CODE_BITS = 2 * MOST_STOPS;

    // Above any price, and small enough to add up one for each vehicle.
    private static final long IMPOSSIBLE = 1L << 60;

    private final Told told;
    private final Rounds rounds;
    private final Plans plans;
    private final Found found;

    public RoundPlans() {
        told = new Told();
        rounds = new Rounds(told);
        plans = new Plans(told, rounds);
        found = new Found();
    }

    public int stop(int kilograms) {
        if (told.stops >= MOST_STOPS || !isWithin(kilograms, MOST_STOP_KILOGRAMS)) {
            return NONE;
        }
        return told.addStop(kilograms);
    }

    public boolean hours(int stop, int first, int last, int service) {
        if (!told.hasStop(stop) || !isSpan(first, last) || !isWithin(service, MOST_SERVICE)) {
            return false;
        }
        told.first[stop] = first;
        told.last[stop] = last;
        told.service[stop] = service;
        return true;
    }

    public boolean penalty(int stop, long cents) {
        if (!told.hasStop(stop) || cents < 0 || cents > MOST_PENALTY) {
            return false;
        }
        told.penalties[stop] = cents;
        return true;
    }

    public int vehicle(int most, int leaving, int back, int rate) {
        if (told.vehicles >= MOST_VEHICLES || !isWithin(most, MOST_VEHICLE_KILOGRAMS)
                || !isSpan(leaving, back) || !isWithin(rate, MOST_RATE)) {
            return NONE;
        }
        return told.addVehicle(most, leaving, back, rate);
    }

    public boolean way(int from, int to, int seconds) {
        if (!isWithin(from, YARD) || !isWithin(to, YARD) || from == to
                || !isWithin(seconds, MOST_WAY)) {
            return false;
        }
        told.ways[from * PLACES + to] = seconds;
        return true;
    }

    public boolean fixed(int stop, int vehicle) {
        if (!told.hasStop(stop) || (vehicle != NONE && !told.hasVehicle(vehicle))) {
            return false;
        }
        told.fixedTo[stop] = vehicle;
        return true;
    }

    public boolean apart(int a, int b, boolean is) {
        if (!told.areTwoStops(a, b)) {
            return false;
        }
        told.setApart(a, b, is);
        return true;
    }

    public boolean before(int a, int b) {
        if (!told.areTwoStops(a, b) || holds(told.behind[a], b) || holds(told.reached[b], a)) {
            return false;
        }
        told.setBefore(a, b);
        return true;
    }

    public int run() {
        rounds.findBacks();
        plans.findPrices();
        long best = plans.cheapest(NONE);
        found.take(told, best);
        for (int vehicle = 0; vehicle < told.vehicles; vehicle++) {
            found.more[vehicle] = costIn(plans.cheapest(vehicle)) - found.cents;
            int set = setIn(best, vehicle, told.stops);
            if (set != 0) {
                rounds.drive(vehicle, set, found);
            }
        }
        return Integer.bitCount(setIn(best, SKIPPED, told.stops));
    }

    public long cost() {
        return found.cents;
    }

    public int vehicleOf(int stop) {
        return found.hasStop(stop) ? found.vehicles[stop] : NONE;
    }

    public int at(int vehicle, int k) {
        if (!found.hasVehicle(vehicle) || k < 0 || k >= found.lengths[vehicle]) {
            return NONE;
        }
        return found.order[vehicle * MOST_STOPS + k];
    }

    public int begun(int stop) {
        return found.hasStop(stop) ? found.begins[stop] : NONE;
    }

    public int back(int vehicle) {
        return found.hasVehicle(vehicle) ? found.backs[vehicle] : NONE;
    }

    public long saved(int vehicle) {
        return found.hasVehicle(vehicle) ? found.more[vehicle] : NONE;
    }

    private static boolean isWithin(int number, int most) {
        return number >= 0 && number <= most;
    }

    private static boolean isSpan(int from, int to) {
        return from >= 0 && from <= to && to <= LAST_SECOND;
    }

    private static boolean holds(int set, int stop) {
        return (set >> stop & 1) != 0;
    }

    private static int with(int set, int stop) {
        return set | 1 << stop;
    }

    private static int without(int set, int stop) {
        return set & ~(1 << stop);
    }

    private static int codeShift(int stop) {
        return 2 * (MOST_STOPS - 1 - stop);
    }

    private static long costIn(long price) {
        return price >> CODE_BITS;
    }

    private static int vehicleIn(long price, int stop) {
        return (int) (price >> codeShift(stop)) & 3;
    }

    private static int setIn(long price, int vehicle, int stops) {
        int set = 0;
        for (int stop = 0; stop < stops; stop++) {
            if (vehicleIn(price, stop) == vehicle) {
                set = with(set, stop);
            }
        }
        return set;
    }

    /** What the calls told so far. */
    private static final class Told {
        int stops;
        int vehicles;
        final int[] kilograms;
        final int[] first;
        final int[] last;
        final int[] service;
        final long[] penalties;
        final int[] fixedTo;
        final int[] apartFrom;
        // The stops that were told to come before, and behind, each stop.
        final int[] ahead;
        final int[] behind;
        // The stops behind each stop, step by step.
        final int[] reached;
        final int[] most;
        final int[] leaving;
        final int[] due;
        final int[] rate;
        final int[] ways;

        Told() {
            kilograms = new int[MOST_STOPS];
            first = new int[MOST_STOPS];
            last = new int[MOST_STOPS];
            service = new int[MOST_STOPS];
            penalties = new long[MOST_STOPS];
            fixedTo = new int[MOST_STOPS];
            apartFrom = new int[MOST_STOPS];
            ahead = new int[MOST_STOPS];
            behind = new int[MOST_STOPS];
            reached = new int[MOST_STOPS];
            most = new int[MOST_VEHICLES];
            leaving = new int[MOST_VEHICLES];
            due = new int[MOST_VEHICLES];
            rate = new int[MOST_VEHICLES];
            ways = new int[PLACES * PLACES];
            Arrays.fill(last, LAST_SECOND);
            Arrays.fill(fixedTo, NONE);
            Arrays.fill(ways, FIRST_WAY);
        }

        boolean hasStop(int stop) {
            return stop >= 0 && stop < stops;
        }

        boolean hasVehicle(int vehicle) {
            return vehicle >= 0 && vehicle < vehicles;
        }

        boolean areTwoStops(int a, int b) {
            return hasStop(a) && hasStop(b) && a != b;
        }

        int addStop(int load) {
            kilograms[stops] = load;
            stops++;
            return stops - 1;
        }

        int addVehicle(int load, int leaves, int by, int cents) {
            most[vehicles] = load;
            leaving[vehicles] = leaves;
            due[vehicles] = by;
            rate[vehicles] = cents;
            vehicles++;
            return vehicles - 1;
        }

        void setApart(int a, int b, boolean is) {
            apartFrom[a] = is ? with(apartFrom[a], b) : without(apartFrom[a], b);
            apartFrom[b] = is ? with(apartFrom[b], a) : without(apartFrom[b], a);
        }

        void setBefore(int a, int b) {
            behind[a] = with(behind[a], b);
            ahead[b] = with(ahead[b], a);
            int more = with(reached[b], b);
            for (int stop = 0; stop < stops; stop++) {
                if (stop == a || holds(reached[stop], a)) {
                    reached[stop] |= more;
                }
            }
        }

        int seconds(int from, int to) {
            return ways[from * PLACES + to];
        }
    }

    /** For each vehicle and each set of stops the round that is back first. */
    private static final class Rounds {
        private final Told told;
        private final int[] backs;
        // By the set that is served and the stop served last: the first
        // second at which a vehicle can go on from there.
        private final int[] ready;
        // By the set that is yet to be served and the stop served next: the
        // last second to be there for a round that ends in time.
        private final int[] latest;

        Rounds(Told told) {
            this.told = told;
            backs = new int[MOST_VEHICLES * SETS];
            ready = new int[SETS * MOST_STOPS];
            latest = new int[SETS * MOST_STOPS];
        }

        int firstBack(int vehicle, int set) {
            return backs[vehicle * SETS + set];
        }

        void findBacks() {
            for (int vehicle = 0; vehicle < told.vehicles; vehicle++) {
                for (int set = 1; set < 1 << told.stops; set++) {
                    // What is left out here is never looked at in 'ready': a
                    // vehicle that may have a set may have each part of it.
                    boolean may = mayHave(vehicle, set);
                    backs[vehicle * SETS + set] = may ? findBack(vehicle, set) : NEVER;
                }
            }
        }

        private boolean mayHave(int vehicle, int set) {
            int load = 0;
            for (int stop = 0; stop < told.stops; stop++) {
                if (holds(set, stop)) {
                    int to = told.fixedTo[stop];
                    if ((to != NONE && to != vehicle) || (told.apartFrom[stop] & set) != 0) {
                        return false;
                    }
                    load += told.kilograms[stop];
                }
            }
            return load <= told.most[vehicle];
        }

        private int findBack(int vehicle, int set) {
            int back = NEVER;
            for (int stop = 0; stop < told.stops; stop++) {
                if (holds(set, stop)) {
                    int second = findReady(vehicle, set, stop);
                    ready[set * MOST_STOPS + stop] = second;
                    back = Math.min(back, second + told.seconds(stop, YARD));
                }
            }
            return back <= told.due[vehicle] ? back : NEVER;
        }

        // To be somewhere sooner never makes a round end later, so the
        // soonest way to each place is enough.
        private int findReady(int vehicle, int set, int stop) {
            int rest = without(set, stop);
            if ((told.behind[stop] & rest) != 0) {
                return NEVER;
            }
            int there = rest == 0 ? told.leaving[vehicle] + told.seconds(YARD, stop) : NEVER;
            for (int from = 0; from < told.stops; from++) {
                if (holds(rest, from)) {
                    int second = ready[rest * MOST_STOPS + from] + told.seconds(from, stop);
                    there = Math.min(there, second);
                }
            }
            if (there > told.last[stop]) {
                return NEVER;
            }
            return Math.max(there, told.first[stop]) + told.service[stop];
        }

        /** Drives the first of the rounds of a set that are back first. */
        void drive(int vehicle, int set, Found found) {
            findLatest(set, firstBack(vehicle, set));
            int place = YARD;
            int second = told.leaving[vehicle];
            int left = set;
            for (int k = 0; k < MOST_STOPS && left != 0; k++) {
                int stop = firstInTime(place, second, left);
                if (stop == NONE) {
                    return;
                }
                second = Math.max(second + told.seconds(place, stop), told.first[stop]);
                found.note(vehicle, stop, second);
                second += told.service[stop];
                place = stop;
                left = without(left, stop);
            }
            found.backs[vehicle] = second + told.seconds(place, YARD);
        }

        private int firstInTime(int place, int second, int left) {
            for (int stop = 0; stop < told.stops; stop++) {
                if (holds(left, stop) && second + told.seconds(place, stop)
                        <= latest[left * MOST_STOPS + stop]) {
                    return stop;
                }
            }
            return NONE;
        }

        private void findLatest(int set, int back) {
            for (int part = 1; part <= set; part++) {
                for (int stop = 0; stop < told.stops; stop++) {
                    if ((part & ~set) == 0 && holds(part, stop)) {
                        latest[part * MOST_STOPS + stop] = findLatestAt(part, stop, back);
                    }
                }
            }
        }

        // NONE is below every second: no one is ever there in time.
        private int findLatestAt(int part, int stop, int back) {
            int rest = without(part, stop);
            if ((told.ahead[stop] & rest) != 0) {
                return NONE;
            }
            int leave = rest == 0 ? back - told.seconds(stop, YARD) : NONE;
            for (int to = 0; to < told.stops; to++) {
                if (holds(rest, to)) {
                    int second = latest[rest * MOST_STOPS + to] - told.seconds(stop, to);
                    leave = Math.max(leave, second);
                }
            }
            int begin = leave - told.service[stop];
            return begin < told.first[stop] ? NONE : Math.min(begin, told.last[stop]);
        }
    }

    /**
     * The cheapest plans. A price is a cost with the vehicles' code in its
     * low bits: so prices add up, and the least price is the first plan of
     * those that cost least.
     */
    private static final class Plans {
        private final Told told;
        private final Rounds rounds;
        private final long[] prices;
        private final long[] skips;
        private final long[] least;

        Plans(Told told, Rounds rounds) {
            this.told = told;
            this.rounds = rounds;
            prices = new long[MOST_VEHICLES * SETS];
            skips = new long[SETS];
            least = new long[SETS];
        }

        void findPrices() {
            for (int set = 1; set < 1 << told.stops; set++) {
                long ones = codeOfOnes(set);
                skips[set] = (penaltiesOf(set) << CODE_BITS) + SKIPPED * ones;
                for (int vehicle = 0; vehicle < told.vehicles; vehicle++) {
                    prices[vehicle * SETS + set] = findPrice(vehicle, set, ones);
                }
            }
        }

        private long findPrice(int vehicle, int set, long ones) {
            int back = rounds.firstBack(vehicle, set);
            if (back == NEVER) {
                return IMPOSSIBLE;
            }
            long seconds = back - told.leaving[vehicle];
            return (told.rate[vehicle] * seconds << CODE_BITS) + vehicle * ones;
        }

        private long penaltiesOf(int set) {
            long sum = 0;
            for (int stop = 0; stop < told.stops; stop++) {
                if (holds(set, stop)) {
                    sum += told.penalties[stop];
                }
            }
            return sum;
        }

        private long codeOfOnes(int set) {
            long code = 0;
            for (int stop = 0; stop < told.stops; stop++) {
                if (holds(set, stop)) {
                    code += 1L << codeShift(stop);
                }
            }
            return code;
        }

        /** The price of the best plan if one vehicle (or NONE) has no round. */
        long cheapest(int resting) {
            int all = (1 << told.stops) - 1;
            System.arraycopy(skips, 0, least, 0, SETS);
            for (int vehicle = 0; vehicle < told.vehicles; vehicle++) {
                if (vehicle != resting) {
                    addRounds(vehicle, all);
                }
            }
            return least[all];
        }

        // Downwards, for a set needs its parts as they were without the vehicle.
        private void addRounds(int vehicle, int all) {
            for (int set = all; set > 0; set--) {
                least[set] = leastWith(vehicle, set);
            }
        }

        private long leastWith(int vehicle, int set) {
            long price = least[set];
            // The next lower number whose bits all stand in the set: each part once.
            for (int part = set; part > 0; part = (part - 1) & set) {
                price = Math.min(price, prices[vehicle * SETS + part] + least[set - part]);
            }
            return price;
        }
    }

    /** The plan that the last run() found. */
    private static final class Found {
        private int stopCount;
        private int vehicleCount;
        long cents;
        final int[] vehicles;
        final int[] begins;
        final int[] order;
        final int[] lengths;
        final int[] backs;
        final long[] more;

        Found() {
            cents = NONE;
            vehicles = new int[MOST_STOPS];
            begins = new int[MOST_STOPS];
            order = new int[MOST_VEHICLES * MOST_STOPS];
            lengths = new int[MOST_VEHICLES];
            backs = new int[MOST_VEHICLES];
            more = new long[MOST_VEHICLES];
        }

        // Before the first run() both counts are 0.
        boolean hasStop(int stop) {
            return stop >= 0 && stop < stopCount;
        }

        boolean hasVehicle(int vehicle) {
            return vehicle >= 0 && vehicle < vehicleCount;
        }

        void take(Told told, long price) {
            stopCount = told.stops;
            vehicleCount = told.vehicles;
            cents = costIn(price);
            for (int stop = 0; stop < stopCount; stop++) {
                vehicles[stop] = vehicleIn(price, stop);
            }
            Arrays.fill(begins, NONE);
            Arrays.fill(lengths, 0);
            Arrays.fill(backs, NONE);
        }

        void note(int vehicle, int stop, int second) {
            int k = lengths[vehicle];
            if (k >= MOST_STOPS) {
                return;
            }
            order[vehicle * MOST_STOPS + k] = stop;
            lengths[vehicle] = k + 1;
            begins[stop] = second;
        }
    }
}
