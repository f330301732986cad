import java.util.function.ToLongFunction;

/** Numbers, objects and answers that several tests need. */
final class Some {
    static final int MIN = Integer.MIN_VALUE;
    static final int MAX = Integer.MAX_VALUE;
    static final int YARD = 7;
    static final int DAY = 86399;
    static final long DEAREST = 1000000000L;

    /**
     * No stop's and no vehicle's number. Some of them would be one if a shift's
     * count, a row's index or a number's high bits were cut off.
     */
    static final int[] NOBODY = {MIN, -32, -2, -1, 7, 8, 32, 1 << 25, 1 << 29, 613566757, MAX};

    private Some() {
    }

    /** A call whose answer is a number: a boolean counts 1 or 0. */
    interface Call extends ToLongFunction<RoundPlans> {
    }

    static long number(boolean is) {
        return is ? 1 : 0;
    }

    /** So many stops of these kilograms, each with that penalty. */
    static RoundPlans stops(int count, int kilograms, long cents) {
        RoundPlans plans = new RoundPlans();
        for (int stop = 0; stop < count; stop++) {
            plans.stop(kilograms);
            plans.penalty(stop, cents);
        }
        return plans;
    }

    /** Every way takes so many seconds. */
    static void ways(RoundPlans plans, int seconds) {
        for (int from = 0; from <= YARD; from++) {
            for (int to = 0; to <= YARD; to++) {
                plans.way(from, to, seconds);
            }
        }
    }

    /** The vehicles of so many stops, as a text: "0 1 3". */
    static String vehicles(RoundPlans plans, int count) {
        StringBuilder text = new StringBuilder();
        for (int stop = 0; stop < count; stop++) {
            text.append(stop == 0 ? "" : " ").append(plans.vehicleOf(stop));
        }
        return text.toString();
    }

    /** A vehicle's stops in their order, as a text: "2 0 1". */
    static String round(RoundPlans plans, int vehicle) {
        StringBuilder text = new StringBuilder();
        for (int k = 0; k < 7 && plans.at(vehicle, k) != RoundPlans.NONE; k++) {
            text.append(k == 0 ? "" : " ").append(plans.at(vehicle, k));
        }
        return text.toString();
    }

    /** What is answered of the plan that was found, and of no such stops and vehicles. */
    static String answers(RoundPlans plans) {
        StringBuilder text = new StringBuilder("cost ").append(plans.cost());
        for (int stop = -1; stop <= 7; stop++) {
            text.append(", stop ").append(stop).append(" on ").append(plans.vehicleOf(stop));
            text.append(" at ").append(plans.begun(stop));
        }
        for (int vehicle = -1; vehicle <= 3; vehicle++) {
            text.append(", vehicle ").append(vehicle).append(" back ").append(plans.back(vehicle));
            text.append(" saved ").append(plans.saved(vehicle)).append(" row");
            for (int k = -1; k <= 7; k++) {
                text.append(' ').append(plans.at(vehicle, k));
            }
        }
        return text.toString();
    }
}
