/**
 * Promises 10 to 16: each sentence that names a boundary case has a test of its
 * own here, with its promise's number and its words.
 */
public final class FindingEdgesTest {
    private static final long DEAR = 100000;

    private static void promise10HowManyAreSkipped() {
        Due.sentence("Promise 10", "Answers how many stops are skipped");
        for (int stops = 0; stops <= 7; stops++) {
            for (int driven = 0; driven <= stops; driven++) {
                RoundPlans x = Some.stops(stops, 1, DEAR);
                x.vehicle(driven, 0, Some.DAY, 1);
                Due.is("run() with " + stops + ", a most of " + driven, x.run(), stops - driven);
            }
        }
    }

    private static void promise10WithNothingTold() {
        Due.sentence("Promise 10", "Finds the best plan (of no stops, of no vehicles)");
        RoundPlans x = new RoundPlans();
        Due.is("run()", x.run(), 0);
        Due.is("cost()", x.cost(), 0);
        x.vehicle(0, 0, Some.DAY, 1000);
        Due.is("run() with a vehicle", x.run(), 0);
        Due.is("cost() with a vehicle", x.cost(), 0);
        RoundPlans y = Some.stops(7, 100000, 3);
        Due.is("run() with 7 stops alone", y.run(), 7);
        Due.is("cost() with 7 stops alone", y.cost(), 21);
    }

    /** The second plan is worse, then better, then smaller: nothing of an older one is left. */
    private static void promise10EachRunAnew() {
        Due.sentence("Promise 10", "Finds the best plan (as things are now)");
        RoundPlans x = Some.stops(3, 1, 1000);
        x.vehicle(3, 0, Some.DAY, 1);
        Due.is("run()", x.run(), 0);
        x.hours(1, 0, 0, 0);
        Due.is("run() when stop 1 is out of reach", x.run(), 1);
        Due.same("round", Some.round(x, 0), "0 2");
        Due.is("begun(1)", x.begun(1), -1);
        Due.is("at(0, 2)", x.at(0, 2), -1);
        x.hours(1, 0, Some.DAY, 0);
        Due.is("run() when it is not", x.run(), 0);
        Due.same("round", Some.round(x, 0), "0 1 2");
        for (int stop = 0; stop < 3; stop++) {
            x.penalty(stop, 0);
        }
        Due.is("run() without penalties", x.run(), 3);
        Due.same("round", Some.round(x, 0), "");
        Due.is("back(0)", x.back(0), -1);
        Due.is("saved(0)", x.saved(0), 0);
    }

    private static void promise11NoneBefore() {
        Due.sentence("Promise 11", "NONE before one was (found)");
        RoundPlans x = Some.stops(1, 0, 5);
        x.vehicle(0, 0, Some.DAY, 1);
        x.stop(-1);
        x.fixed(0, 0);
        Due.is("cost()", x.cost(), -1);
        x.run();
        Due.is("cost() behind run()", x.cost(), 5);
        RoundPlans y = new RoundPlans();
        Due.is("cost() of a new one", y.cost(), -1);
        y.run();
        Due.is("cost() of a new one behind run()", y.cost(), 0);
    }

    private static void promise11Largest() {
        Due.sentence("Promise 11", "The cost of the plan that was found (least and largest)");
        RoundPlans x = Some.stops(7, 1, Some.DEAREST);
        x.run();
        Due.is("seven skipped", x.cost(), 7000000000L);
        for (int k = 0; k < 3; k++) {
            x.vehicle(1, 0, Some.DAY, 1000);
            x.hours(k, 86299, 86299, 0);
            x.hours(6 - k, 0, 0, 0);
        }
        x.hours(3, 0, 0, 0);
        Due.is("run()", x.run(), 4);
        Due.is("three whole days, four skipped", x.cost(), 4000000000L + 3 * 86399000L);
    }

    private static void promise12ThreeWhenSkipped() {
        Due.sentence("Promise 12", "3 when it is skipped");
        RoundPlans x = Some.stops(7, 0, 0);
        x.run();
        Due.same("without vehicles", Some.vehicles(x, 7), "3 3 3 3 3 3 3");
        for (int k = 0; k < 3; k++) {
            x.vehicle(0, 0, 0, 0);
        }
        x.run();
        Due.same("with vehicles", Some.vehicles(x, 7), "3 3 3 3 3 3 3");
    }

    private static void promise12NoneWhenThereWasNoSuchStop() {
        Due.sentence("Promise 12", "NONE when there was no such stop");
        RoundPlans x = Some.stops(6, 0, 0);
        x.run();
        Due.is("vehicleOf(5)", x.vehicleOf(5), 3);
        Due.is("vehicleOf(6)", x.vehicleOf(6), -1);
        for (int stop : Some.NOBODY) {
            Due.is("vehicleOf(" + stop + ")", x.vehicleOf(stop), -1);
        }
        x.stop(0);
        Due.is("vehicleOf(6): there is one now, but there was none", x.vehicleOf(6), -1);
        x.run();
        Due.is("vehicleOf(6) behind run()", x.vehicleOf(6), 3);
    }

    private static void promise12NoneWhenNoneWasFound() {
        Due.sentence("Promise 12", "NONE when .. none was found");
        RoundPlans x = Some.stops(7, 0, 0);
        Due.same("without a run()", Some.vehicles(x, 7), "-1 -1 -1 -1 -1 -1 -1");
    }

    /** Vehicle 0 has stops 0 .. 3, vehicle 1 has stop 4, vehicle 2 none; 5 and 6 are skipped. */
    private static RoundPlans planned() {
        RoundPlans x = Some.stops(7, 1, DEAR);
        for (int k = 0; k < 3; k++) {
            x.vehicle(4, 10 * k, Some.DAY, 1 + k);
        }
        for (int stop = 0; stop < 7; stop++) {
            x.fixed(stop, stop < 4 ? 0 : stop == 4 ? 1 : 2);
        }
        x.penalty(5, 0);
        x.penalty(6, 0);
        return x;
    }

    private static void promise13FromZeroOn() {
        Due.sentence("Promise 13", "The k-th stop of a vehicle's round, from 0 on");
        RoundPlans x = planned();
        x.before(3, 0);
        x.run();
        int[] row = {1, 2, 3, 0};
        for (int k = 0; k < 4; k++) {
            Due.is("at(0, " + k + ")", x.at(0, k), row[k]);
        }
        Due.is("at(1, 0)", x.at(1, 0), 4);
        RoundPlans y = Some.stops(7, 0, DEAR);
        y.vehicle(0, 0, Some.DAY, 1);
        y.vehicle(0, 0, Some.DAY, 1);
        y.vehicle(0, 0, Some.DAY, 0);
        y.run();
        for (int k = 0; k < 7; k++) {
            Due.is("the last vehicle's row: at(2, " + k + ")", y.at(2, k), k);
        }
        Due.is("at(2, 7)", y.at(2, 7), -1);
        Due.is("at(1, 7): not the next row", y.at(1, 7), -1);
        Due.is("at(0, 14): not the next row but one", y.at(0, 14), -1);
    }

    private static void promise13NoneWhenThereIsNoneSuch() {
        Due.sentence("Promise 13", "NONE when there is none such");
        RoundPlans x = planned();
        Due.is("at(0, 0) before run()", x.at(0, 0), -1);
        x.run();
        Due.is("at(0, 4), behind its last", x.at(0, 4), -1);
        Due.is("at(1, 1), behind its last", x.at(1, 1), -1);
        Due.is("at(2, 0), without a round", x.at(2, 0), -1);
        Due.is("at(3, 0), the skipped ones are no round", x.at(3, 0), -1);
        Due.is("at(1, -1), not the row before", x.at(1, -1), -1);
        Due.is("at(1, -7), not the row before", x.at(1, -7), -1);
        Due.is("at(2, -4), not the row before", x.at(2, -4), -1);
        for (int n : Some.NOBODY) {
            Due.is("at(" + n + ", 0)", x.at(n, 0), -1);
            Due.is("at(0, " + n + ")", x.at(0, n), -1);
            Due.is("at(" + n + ", " + n + ")", x.at(n, n), -1);
            Due.is("at(1, " + n + ")", x.at(1, n), -1);
        }
        RoundPlans y = Some.stops(1, 0, DEAR);
        y.vehicle(0, 0, Some.DAY, 1);
        y.run();
        y.vehicle(0, 0, Some.DAY, 1);
        Due.is("at(1, 0): there was no such vehicle", y.at(1, 0), -1);
    }

    private static void promise14Second() {
        Due.sentence("Promise 14", "The second at which a stop is begun (0 and 86399)");
        RoundPlans x = Some.stops(2, 0, DEAR);
        Some.ways(x, 0);
        x.vehicle(0, 0, Some.DAY, 0);
        x.hours(1, 86399, 86399, 0);
        x.run();
        Due.is("begun(0)", x.begun(0), 0);
        Due.is("begun(1)", x.begun(1), 86399);
        x.hours(0, 0, 0, 10000);
        x.hours(1, 10000, 10000, 0);
        x.run();
        Due.is("begun(1) at once behind a service", x.begun(1), 10000);
    }

    private static void promise14NoneWhenThereIsNoneSuch() {
        Due.sentence("Promise 14", "NONE when there is none such");
        RoundPlans x = Some.stops(6, 0, DEAR);
        x.vehicle(0, 0, Some.DAY, 1);
        Due.is("begun(0) before run()", x.begun(0), -1);
        x.run();
        Due.is("begun(5)", x.begun(5), 600);
        Due.is("begun(6)", x.begun(6), -1);
        for (int stop : Some.NOBODY) {
            Due.is("begun(" + stop + ")", x.begun(stop), -1);
        }
        x.stop(0);
        Due.is("begun(6): there was none", x.begun(6), -1);
    }

    private static void promise14NoneWhenSkipped() {
        Due.sentence("Promise 14", "NONE when .. it is skipped");
        RoundPlans x = planned();
        x.run();
        Due.is("begun(4)", x.begun(4), 110);
        Due.is("begun(5)", x.begun(5), -1);
        Due.is("begun(6)", x.begun(6), -1);
        x.penalty(4, 0);
        x.penalty(5, DEAR);
        x.run();
        Due.is("begun(4), then skipped", x.begun(4), -1);
        Due.is("begun(5), then not", x.begun(5), 120);
    }

    private static void promise15Second() {
        Due.sentence("Promise 15", "The second at which a vehicle is back (0 and 86399)");
        RoundPlans x = Some.stops(2, 0, DEAR);
        Some.ways(x, 0);
        x.vehicle(0, 0, 0, 1);
        x.vehicle(0, 0, Some.DAY, 1);
        x.fixed(0, 0);
        x.fixed(1, 1);
        x.hours(1, 86389, 86389, 10);
        x.run();
        Due.is("back(0)", x.back(0), 0);
        Due.is("back(1)", x.back(1), 86399);
    }

    private static void promise15NoneWhenItHasNoRound() {
        Due.sentence("Promise 15", "NONE when it has no round");
        RoundPlans x = planned();
        for (int vehicle = 0; vehicle < 3; vehicle++) {
            Due.is("back(" + vehicle + ") before run()", x.back(vehicle), -1);
        }
        x.run();
        Due.is("back(0)", x.back(0), 500);
        Due.is("back(1)", x.back(1), 210);
        Due.is("back(2), without stops", x.back(2), -1);
        Due.is("back(3), no such vehicle", x.back(3), -1);
        for (int vehicle : Some.NOBODY) {
            Due.is("back(" + vehicle + "), no such vehicle", x.back(vehicle), -1);
        }
        x.penalty(4, 0);
        x.run();
        Due.is("back(1), now without stops", x.back(1), -1);
        RoundPlans y = new RoundPlans();
        y.run();
        y.vehicle(0, 0, Some.DAY, 1);
        Due.is("back(0): there was no such vehicle", y.back(0), -1);
    }

    private static void promise16HowMuchMore() {
        Due.sentence("Promise 16", "By how much the best plan would cost more if a vehicle had no round");
        RoundPlans x = Some.stops(2, 1, 1000);
        x.vehicle(1, 0, Some.DAY, 1);
        x.vehicle(1, 0, Some.DAY, 2);
        x.vehicle(2, 0, Some.DAY, 3);
        x.run();
        Due.is("cost()", x.cost(), 600);
        Due.is("saved(0): 900 by vehicle 2 alone", x.saved(0), 300);
        Due.is("saved(1): 200 and 600, or 900", x.saved(1), 200);
        Due.is("saved(2): it has no round", x.saved(2), 0);
        RoundPlans y = Some.stops(7, 1, Some.DEAREST);
        y.vehicle(7, 0, Some.DAY, 0);
        y.run();
        Due.is("saved(0): all would be skipped", y.saved(0), 7000000000L);
        y.vehicle(7, 0, Some.DAY, 0);
        y.run();
        Due.is("saved(0): the other one costs nothing, too", y.saved(0), 0);
        Due.is("saved(1): it has no round", y.saved(1), 0);
    }

    private static void promise16AsThingsWere() {
        Due.sentence("Promise 16", "as things were when it was found");
        RoundPlans x = Some.stops(1, 0, 1000);
        x.vehicle(0, 0, Some.DAY, 1);
        x.run();
        x.vehicle(0, 0, Some.DAY, 2);
        x.penalty(0, 300);
        x.way(7, 0, 50);
        x.stop(0);
        Due.is("saved(0)", x.saved(0), 800);
        x.run();
        Due.is("saved(0) behind run()", x.saved(0), 150);
    }

    private static void promise16NoneWhenThereWasNoSuchVehicle() {
        Due.sentence("Promise 16", "NONE when there was no such vehicle");
        RoundPlans x = Some.stops(1, 0, 1000);
        x.run();
        Due.is("saved(0)", x.saved(0), -1);
        for (int vehicle = 0; vehicle < 3; vehicle++) {
            x.vehicle(0, 0, Some.DAY, 1);
            Due.is("saved(" + vehicle + "): there was none", x.saved(vehicle), -1);
            x.run();
            Due.is("saved(" + vehicle + ")", x.saved(vehicle), vehicle == 0 ? 800 : 0);
        }
        Due.is("saved(3)", x.saved(3), -1);
        for (int vehicle : Some.NOBODY) {
            Due.is("saved(" + vehicle + ")", x.saved(vehicle), -1);
        }
    }

    private static void promise16NoneWhenNoneWasFound() {
        Due.sentence("Promise 16", "NONE when .. none was found");
        RoundPlans x = planned();
        for (int vehicle = 0; vehicle < 3; vehicle++) {
            Due.is("saved(" + vehicle + ")", x.saved(vehicle), -1);
        }
        x.run();
        Due.is("saved(0)", x.saved(0), 4 * DEAR - 500);
        Due.is("saved(1)", x.saved(1), DEAR - 400);
        Due.is("saved(2)", x.saved(2), 0);
    }

    public static void main(String[] args) {
        promise10HowManyAreSkipped();
        promise10WithNothingTold();
        promise10EachRunAnew();
        promise11NoneBefore();
        promise11Largest();
        promise12ThreeWhenSkipped();
        promise12NoneWhenThereWasNoSuchStop();
        promise12NoneWhenNoneWasFound();
        promise13FromZeroOn();
        promise13NoneWhenThereIsNoneSuch();
        promise14Second();
        promise14NoneWhenThereIsNoneSuch();
        promise14NoneWhenSkipped();
        promise15Second();
        promise15NoneWhenItHasNoRound();
        promise16HowMuchMore();
        promise16AsThingsWere();
        promise16NoneWhenThereWasNoSuchVehicle();
        promise16NoneWhenNoneWasFound();
        Due.end();
    }
}
