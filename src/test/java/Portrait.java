import java.util.ArrayList;
import java.util.List;
import java.util.function.Supplier;

/**
 * All that an object was told and has found, read through its face alone. Each
 * line is what a new object, made by the same calls, answers in a set-up that
 * brings one of the numbers to light. No object gets more than 512 calls.
 */
final class Portrait {
    private static final int FAR = 50000;

    private final Supplier<RoundPlans> made;
    private final List<String> lines = new ArrayList<>();
    private int stops = 7;
    private int vehicles = 3;

    private Portrait(Supplier<RoundPlans> made) {
        this.made = made;
    }

    static List<String> of(Supplier<RoundPlans> made) {
        Portrait portrait = new Portrait(made);
        portrait.lookAtPlans();
        for (int stop = 0; stop < 7; stop++) {
            portrait.lookAtStop(stop);
        }
        for (int a = 0; a < 7; a++) {
            for (int b = 0; b < 7; b++) {
                if (a != b) {
                    portrait.lookAtPair(a, b);
                }
            }
        }
        for (int vehicle = 0; vehicle < 3; vehicle++) {
            portrait.lookAtVehicle(vehicle);
        }
        return portrait.lines;
    }

    private void line(String what, Object seen) {
        lines.add(what + ": " + seen);
    }

    private void lookAtPlans() {
        RoundPlans x = made.get();
        line("found so far", Some.answers(x));
        line("run()", x.run());
        line("found by run()", Some.answers(x));
        int stop = made.get().stop(0);
        line("the next stop", stop);
        stops = stop == RoundPlans.NONE ? 7 : stop;
        int vehicle = made.get().vehicle(0, 0, 0, 0);
        line("the next vehicle", vehicle);
        vehicles = vehicle == RoundPlans.NONE ? 3 : vehicle;
    }

    /** With all stops and vehicles: what was told of later ones before they were would show, too. */
    private RoundPlans filled() {
        RoundPlans x = made.get();
        for (int k = stops; k < 7; k++) {
            x.stop(0);
        }
        for (int k = vehicles; k < 3; k++) {
            x.vehicle(1000000, 0, Some.DAY, 5);
        }
        return x;
    }

    /** No vehicle reaches a stop outside the set and is back on the same day. */
    private static void keepOnly(RoundPlans x, int set) {
        for (int stop = 0; stop < 7; stop++) {
            if ((set >> stop & 1) == 0) {
                x.penalty(stop, 0);
                for (int place = 0; place <= Some.YARD; place++) {
                    x.way(place, stop, FAR);
                    x.way(stop, place, FAR);
                }
            }
        }
    }

    /** A stop that may be served at any time, and that is dear to skip. */
    private static void free(RoundPlans x, int stop) {
        x.hours(stop, 0, Some.DAY, 0);
        x.penalty(stop, Some.DEAREST);
    }

    private RoundPlans alone(int stop) {
        RoundPlans x = filled();
        keepOnly(x, 1 << stop);
        x.way(Some.YARD, stop, 10);
        x.way(stop, Some.YARD, 10);
        return x;
    }

    private void lookAtStop(int stop) {
        RoundPlans x = alone(stop);
        x.fixed(stop, -1);
        x.penalty(stop, Some.DEAREST);
        x.run();
        line("stop " + stop + " first", x.begun(stop));
        line("stop " + stop + " service", x.cost());
        if (stop < stops) {
            line("stop " + stop + " last", furthest(x, Some.YARD, stop, stop));
        }
        line("stop " + stop + " penalty", penaltyOf(stop));
        lookAtFixed(stop);
    }

    private long penaltyOf(int stop) {
        RoundPlans x = filled();
        Some.ways(x, FAR);
        for (int other = 0; other < 7; other++) {
            if (other != stop) {
                x.penalty(other, 0);
            }
        }
        x.run();
        return x.cost();
    }

    // The second time only vehicles that leave at second 0 are in time.
    private void lookAtFixed(int stop) {
        RoundPlans x = alone(stop);
        free(x, stop);
        x.run();
        line("stop " + stop + " on", x.vehicleOf(stop));
        x.hours(stop, 0, 10, 0);
        x.run();
        line("stop " + stop + " soon on", x.vehicleOf(stop));
    }

    /** The most seconds of a way with which a stop is served, or -1. */
    private static int furthest(RoundPlans x, int from, int to, int stop) {
        int low = -1;
        int high = FAR;
        while (low < high) {
            int middle = (low + high + 1) / 2;
            x.way(from, to, middle);
            x.run();
            if (x.vehicleOf(stop) != 3) {
                low = middle;
            } else {
                high = middle - 1;
            }
        }
        return low;
    }

    private RoundPlans both(int a, int b) {
        RoundPlans x = filled();
        keepOnly(x, 1 << a | 1 << b);
        free(x, a);
        free(x, b);
        return x;
    }

    private void lookAtPair(int a, int b) {
        String pair = "stops " + a + " and " + b;
        line(pair + " before", made.get().before(a, b));
        RoundPlans x = both(a, b);
        x.fixed(a, 0);
        x.fixed(b, 0);
        x.apart(a, b, false);
        x.before(a, b);
        x.run();
        line(pair + " ways", x.begun(a) + " " + x.begun(b) + " " + x.back(0));
        x = both(a, b);
        x.fixed(a, -1);
        x.fixed(b, -1);
        int[] places = {a, b, Some.YARD};
        for (int from : places) {
            for (int to : places) {
                x.way(from, to, 10);
            }
        }
        x.run();
        line(pair + " apart", x.vehicleOf(a) + " " + x.vehicleOf(b));
        x.apart(a, b, false);
        x.way(b, a, 0);
        x.run();
        line(pair + " order", x.begun(a) + " " + x.begun(b));
    }

    private void lookAtVehicle(int vehicle) {
        RoundPlans x = alone(0);
        free(x, 0);
        x.fixed(0, vehicle);
        x.run();
        line("vehicle " + vehicle + " leaving", x.begun(0));
        line("vehicle " + vehicle + " cost", x.cost());
        // With both ways long a vehicle may be on the road for the whole day.
        x.way(Some.YARD, 0, Some.DAY - FAR);
        if (vehicle < vehicles) {
            line("vehicle " + vehicle + " back", furthest(x, 0, Some.YARD, 0));
        }
        x = filled();
        Some.ways(x, 0);
        for (int stop = 0; stop < 7; stop++) {
            free(x, stop);
            x.fixed(stop, vehicle);
            for (int other = 0; other < stop; other++) {
                x.apart(stop, other, false);
            }
        }
        x.run();
        line("vehicle " + vehicle + " carries", Some.round(x, vehicle));
    }
}
