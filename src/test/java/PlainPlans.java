import java.util.ArrayList;
import java.util.List;

/**
 * The document once more, as slow and plain as can be: every row of stops is
 * driven and every plan is looked at. The tests hold RoundPlans against it.
 */
final class PlainPlans {
    private static final int YARD = 7;

    private static final class Stop {
        int kilograms;
        int first = 0;
        int last = 86399;
        int service = 0;
        long penalty = 0;
        int fixed = -1;
    }

    private static final class Vehicle {
        int most;
        int leaving;
        int back;
        int rate;
        /** By set of stops: the first of the rounds that are back first, or null. */
        int[][] rounds;
        int[] backs;
    }

    private final List<Stop> stops = new ArrayList<>();
    private final List<Vehicle> vehicles = new ArrayList<>();
    private final int[][] ways = new int[8][8];
    private final boolean[][] apart = new boolean[7][7];
    private final boolean[][] before = new boolean[7][7];

    private boolean found = false;
    private long cost;
    private int[] vehicleOf = {};
    private int[] begun = {};
    private int[][] rows = {};
    private int[] backs = {};
    private long[] saved = {};

    PlainPlans() {
        for (int[] row : ways) {
            java.util.Arrays.fill(row, 100);
        }
    }

    int stop(int kilograms) {
        if (stops.size() == 7 || kilograms < 0 || kilograms > 100000) {
            return -1;
        }
        Stop stop = new Stop();
        stop.kilograms = kilograms;
        stops.add(stop);
        return stops.size() - 1;
    }

    private boolean isStop(int stop) {
        return stop >= 0 && stop < stops.size();
    }

    boolean hours(int stop, int first, int last, int service) {
        if (!isStop(stop) || first < 0 || last > 86399 || first > last
                || service < 0 || service > 10000) {
            return false;
        }
        stops.get(stop).first = first;
        stops.get(stop).last = last;
        stops.get(stop).service = service;
        return true;
    }

    boolean penalty(int stop, long cents) {
        if (!isStop(stop) || cents < 0 || cents > 1000000000L) {
            return false;
        }
        stops.get(stop).penalty = cents;
        return true;
    }

    int vehicle(int most, int leaving, int back, int rate) {
        if (vehicles.size() == 3 || most < 0 || most > 1000000 || leaving < 0
                || leaving > back || back > 86399 || rate < 0 || rate > 1000) {
            return -1;
        }
        Vehicle vehicle = new Vehicle();
        vehicle.most = most;
        vehicle.leaving = leaving;
        vehicle.back = back;
        vehicle.rate = rate;
        vehicles.add(vehicle);
        return vehicles.size() - 1;
    }

    boolean way(int from, int to, int seconds) {
        if (from < 0 || from > 7 || to < 0 || to > 7 || from == to
                || seconds < 0 || seconds > 50000) {
            return false;
        }
        ways[from][to] = seconds;
        return true;
    }

    boolean fixed(int stop, int vehicle) {
        if (!isStop(stop) || vehicle < -1 || vehicle >= vehicles.size()) {
            return false;
        }
        stops.get(stop).fixed = vehicle;
        return true;
    }

    boolean apart(int a, int b, boolean is) {
        if (!isStop(a) || !isStop(b) || a == b) {
            return false;
        }
        apart[a][b] = is;
        apart[b][a] = is;
        return true;
    }

    boolean before(int a, int b) {
        if (!isStop(a) || !isStop(b) || a == b || before[a][b] || leads(b, a)) {
            return false;
        }
        before[a][b] = true;
        return true;
    }

    private boolean leads(int from, int to) {
        for (int next = 0; next < 7; next++) {
            if (before[from][next] && (next == to || leads(next, to))) {
                return true;
            }
        }
        return false;
    }

    /** When the vehicle is back from a row, with its beginnings noted; -1 if it is no round. */
    private int drive(int v, int[] row, int length, int[] begins) {
        Vehicle vehicle = vehicles.get(v);
        int kilograms = 0;
        int second = vehicle.leaving;
        int place = YARD;
        for (int k = 0; k < length; k++) {
            Stop stop = stops.get(row[k]);
            for (int j = 0; j < k; j++) {
                if (apart[row[j]][row[k]] || before[row[k]][row[j]]) {
                    return -1;
                }
            }
            if (stop.fixed != -1 && stop.fixed != v) {
                return -1;
            }
            kilograms += stop.kilograms;
            second += ways[place][row[k]];
            if (second > stop.last) {
                return -1;
            }
            second = Math.max(second, stop.first);
            begins[row[k]] = second;
            second += stop.service;
            place = row[k];
        }
        second += ways[place][YARD];
        return kilograms > vehicle.most || second > vehicle.back ? -1 : second;
    }

    private void driveAll(int v, int[] row, int length, int set) {
        Vehicle vehicle = vehicles.get(v);
        if (length > 0) {
            int back = drive(v, row, length, new int[7]);
            if (back != -1 && (vehicle.rounds[set] == null || back < vehicle.backs[set])) {
                vehicle.rounds[set] = java.util.Arrays.copyOf(row, length);
                vehicle.backs[set] = back;
            }
        }
        for (int stop = 0; stop < stops.size(); stop++) {
            if ((set & 1 << stop) == 0) {
                row[length] = stop;
                driveAll(v, row, length + 1, set | 1 << stop);
            }
        }
    }

    /** The cost of the plan, or -1 if there is a vehicle without a round of its stops. */
    private long costOf(int[] plan, int[] sets) {
        java.util.Arrays.fill(sets, 0);
        long sum = 0;
        for (int stop = 0; stop < plan.length; stop++) {
            sets[plan[stop]] |= 1 << stop;
            if (plan[stop] == 3) {
                sum += stops.get(stop).penalty;
            }
        }
        for (int v = 0; v < 3; v++) {
            if (sets[v] != 0) {
                if (v >= vehicles.size() || vehicles.get(v).rounds[sets[v]] == null) {
                    return -1;
                }
                Vehicle vehicle = vehicles.get(v);
                sum += (long) vehicle.rate * (vehicle.backs[sets[v]] - vehicle.leaving);
            }
        }
        return sum;
    }

    int run() {
        for (int v = 0; v < vehicles.size(); v++) {
            vehicles.get(v).rounds = new int[128][];
            vehicles.get(v).backs = new int[128];
            driveAll(v, new int[8], 0, 0);
        }
        long[] without = {Long.MAX_VALUE, Long.MAX_VALUE, Long.MAX_VALUE};
        int[] plan = new int[stops.size()];
        int[] sets = new int[4];
        int[] best = null;
        int plans = 1 << 2 * plan.length;
        for (int number = 0; number < plans; number++) {
            for (int stop = 0; stop < plan.length; stop++) {
                plan[stop] = number >> 2 * (plan.length - 1 - stop) & 3;
            }
            long sum = costOf(plan, sets);
            if (sum != -1 && (best == null || sum < cost)) {
                best = plan.clone();
                cost = sum;
            }
            for (int v = 0; v < 3; v++) {
                if (sum != -1 && sets[v] == 0) {
                    without[v] = Math.min(without[v], sum);
                }
            }
        }
        return keep(best, without);
    }

    private int keep(int[] best, long[] without) {
        found = true;
        vehicleOf = best;
        begun = new int[best.length];
        int[] sets = new int[4];
        costOf(best, sets);
        rows = new int[vehicles.size()][0];
        backs = new int[vehicles.size()];
        saved = new long[vehicles.size()];
        int[] begins = new int[7];
        for (int v = 0; v < vehicles.size(); v++) {
            saved[v] = without[v] - cost;
            backs[v] = -1;
            if (sets[v] != 0) {
                rows[v] = vehicles.get(v).rounds[sets[v]];
                backs[v] = drive(v, rows[v], rows[v].length, begins);
            }
        }
        for (int stop = 0; stop < best.length; stop++) {
            begun[stop] = best[stop] == 3 ? -1 : begins[stop];
        }
        return Integer.bitCount(sets[3]);
    }

    long cost() {
        return found ? cost : -1;
    }

    int vehicleOf(int stop) {
        return stop >= 0 && stop < vehicleOf.length ? vehicleOf[stop] : -1;
    }

    int at(int vehicle, int k) {
        return vehicle >= 0 && vehicle < rows.length && k >= 0 && k < rows[vehicle].length
                ? rows[vehicle][k] : -1;
    }

    int begun(int stop) {
        return stop >= 0 && stop < begun.length ? begun[stop] : -1;
    }

    int back(int vehicle) {
        return vehicle >= 0 && vehicle < backs.length ? backs[vehicle] : -1;
    }

    long saved(int vehicle) {
        return vehicle >= 0 && vehicle < saved.length ? saved[vehicle] : -1;
    }
}
