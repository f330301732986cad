/** Promises 10 to 16: what run() finds, and what is told of it. */
public final class FindingTest {
    private static final int[] WRONG = {Integer.MIN_VALUE, -2, -1, 3, 4, 7, 8, Integer.MAX_VALUE};

    private static RoundPlans withStops(int count, int kilograms, long penalty) {
        RoundPlans plans = new RoundPlans();
        for (int stop = 0; stop < count; stop++) {
            plans.stop(kilograms);
            plans.penalty(stop, penalty);
        }
        return plans;
    }

    private static void promise10AnswersTheSkipped() {
        RoundPlans x = withStops(7, 1, 5000);
        Due.is("no vehicles", x.run(), 7);
        x.vehicle(2, 0, 86399, 1);
        Due.is("two carried", x.run(), 5);
        x.vehicle(3, 0, 86399, 1);
        Due.is("five carried", x.run(), 2);
        x.vehicle(7, 0, 86399, 1);
        Due.is("all carried", x.run(), 0);
    }

    private static void promise10NoStops() {
        RoundPlans x = new RoundPlans();
        x.vehicle(10, 5, 86399, 1000);
        Due.is("no stops", x.run(), 0);
        Due.is("no cost", x.cost(), 0);
        Due.is("no round", x.back(0), -1);
        Due.is("nothing saved", x.saved(0), 0);
        Due.is("no vehicle 1", x.saved(1), -1);
    }

    /** Equal plans: the first by the vehicles of stops 0, 1, .. */
    private static void promise10FirstPlan() {
        RoundPlans x = withStops(2, 1, 200);
        x.vehicle(1, 0, 86399, 1);
        Due.is("driven and skipped cost the same", x.run(), 1);
        Due.is("stop 0 is driven", x.vehicleOf(0), 0);
        Due.is("stop 1 is skipped", x.vehicleOf(1), 3);
        Due.is("400 anyway", x.cost(), 400);
        x.vehicle(2, 0, 86399, 1);
        x.run();
        Due.is("300 with both on vehicle 1", x.cost(), 300);
        Due.is("stop 0 on vehicle 1", x.vehicleOf(0), 1);
        Due.is("stop 1 on vehicle 1", x.vehicleOf(1), 1);
        RoundPlans y = withStops(3, 1, 1000);
        y.vehicle(2, 0, 86399, 0);
        y.vehicle(2, 0, 86399, 0);
        y.run();
        Due.is("0 0 1: stop 0", y.vehicleOf(0), 0);
        Due.is("0 0 1: stop 1", y.vehicleOf(1), 0);
        Due.is("0 0 1: stop 2", y.vehicleOf(2), 1);
    }

    /** The cost counts before the number of the vehicle, and of the skipped. */
    private static void promise10LeastCost() {
        RoundPlans x = withStops(1, 0, 1000);
        x.vehicle(0, 0, 86399, 3);
        x.vehicle(0, 0, 86399, 2);
        x.vehicle(0, 0, 86399, 2);
        x.run();
        Due.is("the first of the cheapest", x.vehicleOf(0), 1);
        x.penalty(0, 399);
        Due.is("to skip is cheaper by a cent", x.run(), 1);
        x.penalty(0, 400);
        Due.is("to skip costs the same", x.run(), 0);
    }

    /** Equal rounds: the first by its stops, though another one is sooner at the second stop. */
    private static void promise10FirstRound() {
        RoundPlans x = withStops(3, 0, 100000);
        x.vehicle(0, 0, 86399, 1);
        x.way(7, 0, 200);
        x.hours(2, 5000, 6000, 0);
        x.run();
        Due.is("waits at stop 2 anyway: at(0, 0)", x.at(0, 0), 0);
        Due.is("at(0, 1)", x.at(0, 1), 1);
        Due.is("at(0, 2)", x.at(0, 2), 2);
        Due.is("begun(0)", x.begun(0), 200);
        Due.is("begun(1)", x.begun(1), 300);
        Due.is("back(0)", x.back(0), 5100);
    }

    /** The round that is back first, also for a vehicle that costs nothing. */
    private static void promise10BackFirst() {
        RoundPlans x = withStops(3, 0, 1);
        x.vehicle(0, 0, 86399, 0);
        x.way(7, 2, 1);
        x.way(2, 1, 1);
        x.way(1, 0, 1);
        x.way(0, 7, 1);
        x.run();
        Due.is("back(0)", x.back(0), 4);
        for (int k = 0; k < 3; k++) {
            Due.is("at(0, " + k + ")", x.at(0, k), 2 - k);
        }
        Due.is("costs nothing", x.cost(), 0);
    }

    /** The time at a stop counts from being there: to be sooner elsewhere may be dearer. */
    private static void promise10Hours() {
        RoundPlans x = withStops(2, 0, 100000);
        x.vehicle(0, 1000, 86399, 2);
        x.hours(0, 5000, 5010, 20);
        x.hours(1, 1000, 2000, 30);
        x.run();
        Due.is("stop 1 first", x.at(0, 0), 1);
        Due.is("begun(1)", x.begun(1), 1100);
        Due.is("begun(0)", x.begun(0), 5000);
        Due.is("back(0)", x.back(0), 5120);
        Due.is("the waiting costs, too", x.cost(), 2 * 4120);
        x.hours(1, 1000, 1099, 30);
        Due.is("one must be skipped", x.run(), 1);
        Due.is("stop 1", x.vehicleOf(1), 3);
        Due.is("its penalty and the round", x.cost(), 100000 + 2 * 4120);
    }

    /** What run() found stays, whatever is told behind it. */
    private static void promise10Stays() {
        RoundPlans x = withStops(2, 1, 1000);
        x.vehicle(2, 0, 86399, 1);
        x.run();
        x.stop(5);
        x.vehicle(9, 0, 86399, 0);
        x.penalty(0, 0);
        x.hours(0, 700, 800, 9);
        x.way(7, 0, 9);
        x.apart(0, 1, true);
        x.fixed(0, 1);
        x.before(1, 0);
        Due.is("stays: cost()", x.cost(), 300);
        Due.is("stays: vehicleOf(0)", x.vehicleOf(0), 0);
        Due.is("stays: begun(1)", x.begun(1), 200);
        Due.is("stays: at(0, 0)", x.at(0, 0), 0);
        Due.is("stays: back(0)", x.back(0), 300);
        Due.is("stays: saved(0)", x.saved(0), 1700);
        Due.is("a later stop: vehicleOf(2)", x.vehicleOf(2), -1);
        Due.is("a later stop: begun(2)", x.begun(2), -1);
        Due.is("a later vehicle: saved(1)", x.saved(1), -1);
        Due.is("a later vehicle: back(1)", x.back(1), -1);
        Due.is("a later vehicle: at(1, 0)", x.at(1, 0), -1);
        x.run();
        Due.is("then another plan: cost()", x.cost(), 0);
        Due.is("then another plan: saved(1)", x.saved(1), 200);
    }

    private static void promise11Cost() {
        RoundPlans x = withStops(3, 1, 1000000000L);
        Due.is("cost() before run()", x.cost(), -1);
        x.vehicle(1, 0, 86399, 1000);
        x.way(7, 0, 50000);
        x.way(0, 7, 36399);
        x.hours(1, 0, 0, 0);
        x.hours(2, 0, 0, 0);
        x.run();
        Due.is("a whole day at 1000 and two skipped", x.cost(), 2086399000L);
    }

    private static void promises12To15() {
        RoundPlans x = withStops(3, 2, 10000);
        x.vehicle(4, 10, 86399, 5);
        x.vehicle(4, 20, 20, 0);
        x.penalty(2, 3);
        x.hours(1, 0, 86399, 15);
        Due.is("run()", x.run(), 1);
        Due.is("vehicleOf(0)", x.vehicleOf(0), 0);
        Due.is("vehicleOf(1)", x.vehicleOf(1), 0);
        Due.is("vehicleOf(2)", x.vehicleOf(2), 3);
        Due.is("at(0, 0)", x.at(0, 0), 0);
        Due.is("at(0, 1)", x.at(0, 1), 1);
        Due.is("at(0, 2)", x.at(0, 2), -1);
        Due.is("at(1, 0)", x.at(1, 0), -1);
        Due.is("begun(0)", x.begun(0), 110);
        Due.is("begun(1)", x.begun(1), 210);
        Due.is("begun(2)", x.begun(2), -1);
        Due.is("back(0)", x.back(0), 325);
        Due.is("back(1)", x.back(1), -1);
        Due.is("back(2)", x.back(2), -1);
        for (int wrong : WRONG) {
            Due.is("vehicleOf(" + wrong + ")", x.vehicleOf(wrong), -1);
            Due.is("at(" + wrong + ", 0)", x.at(wrong, 0), -1);
            Due.is("at(0, " + wrong + ")", x.at(0, wrong), -1);
            Due.is("begun(" + wrong + ")", x.begun(wrong), -1);
            Due.is("back(" + wrong + ")", x.back(wrong), -1);
            Due.is("saved(" + wrong + ")", x.saved(wrong), -1);
        }
    }

    /** What an earlier plan had must not show through the next one. */
    private static void nothingOfAnEarlierPlan() {
        RoundPlans x = withStops(2, 1, 1000);
        x.vehicle(2, 0, 86399, 1);
        x.run();
        x.penalty(0, 0);
        x.penalty(1, 0);
        Due.is("run()", x.run(), 2);
        Due.is("begun(0)", x.begun(0), -1);
        Due.is("begun(1)", x.begun(1), -1);
        Due.is("at(0, 0)", x.at(0, 0), -1);
        Due.is("back(0)", x.back(0), -1);
        Due.is("saved(0)", x.saved(0), 0);
    }

    private static void promise16Saved() {
        RoundPlans x = withStops(2, 1, 5000);
        x.vehicle(2, 0, 86399, 2);
        Due.is("saved(0) before run()", x.saved(0), -1);
        x.vehicle(1, 0, 86399, 5);
        x.vehicle(2, 0, 86399, 3);
        x.run();
        Due.is("both with vehicle 0", x.cost(), 600);
        Due.is("else with vehicle 2", x.saved(0), 300);
        Due.is("vehicle 1 has no round", x.saved(1), 0);
        Due.is("vehicle 2 has no round", x.saved(2), 0);
        Due.is("saved(3)", x.saved(3), -1);
        x.fixed(0, 0);
        x.run();
        Due.is("what is fixed to it would be skipped", x.saved(0), 5000 + 600 - 600);
        x.penalty(0, 1000000000L);
        x.penalty(1, 1000000000L);
        x.fixed(1, 0);
        x.run();
        Due.is("both skipped, above an int's reach", x.saved(0), 1999999400L);
    }

    public static void main(String[] args) {
        promise10AnswersTheSkipped();
        promise10NoStops();
        promise10FirstPlan();
        promise10LeastCost();
        promise10FirstRound();
        promise10BackFirst();
        promise10Hours();
        promise10Stays();
        promise11Cost();
        promises12To15();
        nothingOfAnEarlierPlan();
        promise16Saved();
        Due.end();
    }
}
