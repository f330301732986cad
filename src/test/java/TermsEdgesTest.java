/**
 * "What it is" and "Terms": each sentence that names a boundary case has a test
 * of its own here, with its words. That a call that is refused changes nothing
 * is looked at in RefusedTest.
 */
public final class TermsEdgesTest {
    private static final long DEAR = 100000;

    /** One stop, dear to skip, and a vehicle for it with these seconds, at 1 cent. */
    private static RoundPlans oneStop(int leaving, int back) {
        RoundPlans x = Some.stops(1, 0, DEAR);
        x.vehicle(0, leaving, back, 1);
        return x;
    }

    private static void at512Calls() {
        Due.sentence("What it is", "An object is used for at most 512 calls");
        RoundPlans x = Some.stops(7, 1, DEAR);
        for (int k = 0; k < 3; k++) {
            x.vehicle(3, 0, Some.DAY, 1);
        }
        // 17 calls so far, and two in each step: the last is the 511th.
        for (int k = 0; k < 247; k++) {
            Due.yes("hours(0, 0, 86399, " + k + ")", x.hours(0, 0, Some.DAY, k));
            Due.is("run()", x.run(), 0);
        }
        Due.is("cost(), the 512th call", x.cost(), 1000 + 246);
        RoundPlans y = new RoundPlans();
        for (int k = 0; k < 511; k++) {
            Due.is("stop(-1)", y.stop(-1), -1);
        }
        Due.is("stop(0), the 512th call", y.stop(0), 0);
    }

    private static void stopsSevenAtMost() {
        Due.sentence("Terms", "STOPS are numbered from 0 on, 7 at most");
        RoundPlans x = new RoundPlans();
        for (int stop = 0; stop < 7; stop++) {
            Due.no("penalty(" + stop + ", 1) before it is there", x.penalty(stop, 1));
            Due.is("stop(0)", x.stop(0), stop);
            Due.yes("penalty(" + stop + ", ..)", x.penalty(stop, 1L << stop));
        }
        Due.is("stop(0), the eighth", x.stop(0), -1);
        Due.no("penalty(7, 1)", x.penalty(7, 1));
        Due.is("run()", x.run(), 7);
        Due.is("cost()", x.cost(), 127);
    }

    private static void hoursAtFirst() {
        Due.sentence("Terms", "HOURS (.. 0 .. 86399 at first)");
        RoundPlans x = Some.stops(7, 0, DEAR);
        Some.ways(x, 0);
        x.vehicle(0, 0, Some.DAY, 1);
        x.vehicle(0, Some.DAY, Some.DAY, 1);
        for (int stop = 0; stop < 7; stop++) {
            x.fixed(stop, stop % 2);
        }
        Due.is("run()", x.run(), 0);
        for (int stop = 0; stop < 7; stop++) {
            Due.is("begun(" + stop + ")", x.begun(stop), stop % 2 == 0 ? 0 : Some.DAY);
        }
    }

    private static void serviceAtFirst() {
        Due.sentence("Terms", "the SERVICE it takes (seconds, 0 at first)");
        RoundPlans x = Some.stops(7, 0, DEAR);
        x.vehicle(0, 0, Some.DAY, 1);
        x.run();
        for (int stop = 0; stop < 7; stop++) {
            Due.is("begun(" + stop + ")", x.begun(stop), 100 * (stop + 1));
        }
        Due.is("back(0)", x.back(0), 800);
    }

    private static void penaltyAtFirst() {
        Due.sentence("Terms", "a PENALTY (cents, 0 at first)");
        RoundPlans x = new RoundPlans();
        for (int stop = 0; stop < 7; stop++) {
            x.stop(0);
        }
        Due.is("run()", x.run(), 7);
        Due.is("cost()", x.cost(), 0);
        x.vehicle(0, 0, Some.DAY, 1);
        Due.is("to skip all is cheaper", x.run(), 7);
        Due.is("cost()", x.cost(), 0);
    }

    private static void vehiclesThreeAtMost() {
        Due.sentence("Terms", "VEHICLES are numbered from 0 on, 3 at most");
        RoundPlans x = Some.stops(7, 1, DEAR);
        for (int vehicle = 0; vehicle < 3; vehicle++) {
            Due.is("vehicle(2, 0, 86399, 1)", x.vehicle(2, 0, Some.DAY, 1), vehicle);
            Due.is("run()", x.run(), 7 - 2 * (vehicle + 1));
        }
        Due.is("vehicle(2, 0, 86399, 1), the fourth", x.vehicle(2, 0, Some.DAY, 1), -1);
        Due.is("run()", x.run(), 1);
    }

    private static void theYardIsPlace7() {
        Due.sentence("Terms", "PLACES are stop k and, as 7, the YARD");
        for (int stop = 0; stop < 7; stop++) {
            RoundPlans x = Some.stops(7, 0, 0);
            x.penalty(stop, DEAR);
            x.vehicle(0, 0, Some.DAY, 1000);
            x.way(7, stop, 3);
            x.way(stop, 7, 4);
            Due.is("run()", x.run(), 6);
            Due.is("begun(" + stop + ")", x.begun(stop), 3);
            Due.is("back(0)", x.back(0), 7);
        }
    }

    /** Every pair of stops, in both orders. */
    private static void waysAtFirst() {
        Due.sentence("Terms", "a WAY from a place to another one takes seconds (100 at first)");
        for (int a = 0; a < 7; a++) {
            for (int b = 0; b < 7; b++) {
                if (a != b) {
                    RoundPlans x = Some.stops(7, 0, 0);
                    x.vehicle(0, 0, Some.DAY, 10);
                    x.penalty(a, DEAR);
                    x.penalty(b, DEAR);
                    x.before(a, b);
                    x.run();
                    Due.is("begun(" + a + ")", x.begun(a), 100);
                    Due.is("begun(" + b + ")", x.begun(b), 200);
                    Due.is("back(0)", x.back(0), 300);
                }
            }
        }
    }

    /** Every way gets seconds of its own: none is told for its way back, or for another one. */
    private static void aWayFromAPlaceToAnotherOne() {
        Due.sentence("Terms", "a WAY from a place to another one");
        for (int a = 0; a < 7; a++) {
            for (int b = 0; b < 7; b++) {
                if (a != b) {
                    RoundPlans x = Some.stops(7, 0, 0);
                    x.vehicle(0, 0, Some.DAY, 10);
                    for (int from = 0; from <= 7; from++) {
                        for (int to = 0; to <= 7; to++) {
                            x.way(from, to, 1000 + 8 * from + to);
                        }
                    }
                    x.penalty(a, DEAR);
                    x.penalty(b, DEAR);
                    x.before(a, b);
                    x.run();
                    Due.is("begun(" + a + ")", x.begun(a), 1056 + a);
                    Due.is("begun(" + b + ")", x.begun(b), 2056 + 9 * a + b);
                    Due.is("back(0)", x.back(0), 3063 + 9 * a + 9 * b);
                }
            }
        }
    }

    private static void apartOnNoVehicle() {
        Due.sentence("Terms", "Two stops may be APART: no vehicle has both");
        RoundPlans x = Some.stops(3, 0, DEAR);
        x.apart(0, 1, true);
        x.apart(1, 2, true);
        x.apart(0, 2, true);
        for (int vehicles = 1; vehicles <= 3; vehicles++) {
            x.vehicle(0, 0, Some.DAY, vehicles);
            Due.is("run() with " + vehicles, x.run(), 3 - vehicles);
        }
        Due.same("each on its own", Some.vehicles(x, 3), "0 1 2");
        x.apart(0, 2, false);
        x.run();
        Due.same("0 and 2 may be together, and 1 with neither", Some.vehicles(x, 3), "0 1 0");
    }

    /** Stop 1 is begun long before stop 0, on another vehicle; or it is skipped. */
    private static void beforeOnTheSameVehicle() {
        Due.sentence("Terms", "A stop may come BEFORE another one, on the same vehicle");
        RoundPlans x = Some.stops(2, 0, DEAR);
        x.vehicle(0, 5000, Some.DAY, 1);
        x.vehicle(0, 0, Some.DAY, 1);
        x.fixed(0, 0);
        x.fixed(1, 1);
        x.before(0, 1);
        Due.is("run()", x.run(), 0);
        Due.is("begun(0)", x.begun(0), 5100);
        Due.is("begun(1)", x.begun(1), 100);
        x.penalty(0, 0);
        Due.is("what comes before may be skipped", x.run(), 1);
        Due.same("vehicles", Some.vehicles(x, 2), "3 1");
        x.penalty(0, DEAR);
        x.penalty(1, 0);
        Due.is("what comes behind may be skipped", x.run(), 1);
        Due.same("vehicles", Some.vehicles(x, 2), "0 3");
    }

    private static void oneOrMore() {
        Due.sentence("Terms", "A ROUND of a vehicle is a row of different stops, one or more");
        RoundPlans x = Some.stops(7, 0, Some.DEAREST);
        x.vehicle(0, 77, Some.DAY, 1000);
        x.vehicle(0, 0, Some.DAY, 1);
        x.run();
        Due.is("without a stop there is no round: back(0)", x.back(0), -1);
        Due.is("and no cost", x.cost(), 800);
        Due.same("all seven", Some.round(x, 1), "0 1 2 3 4 5 6");
        x.fixed(4, 0);
        x.run();
        Due.same("just one", Some.round(x, 0), "4");
        Due.same("the others, each once", Some.round(x, 1), "0 1 2 3 5 6");
    }

    private static void leavesAtItsSecond() {
        Due.sentence("Terms", "It leaves the yard at its second");
        int[] seconds = {0, 1, 50000, 86199};
        for (int leaving : seconds) {
            RoundPlans x = oneStop(leaving, Some.DAY);
            Due.is("run()", x.run(), 0);
            Due.is("begun(0), leaving at " + leaving, x.begun(0), leaving + 100);
            Due.is("cost()", x.cost(), 200);
        }
        Due.is("leaving at 86200", oneStop(86200, Some.DAY).run(), 1);
        RoundPlans y = oneStop(10, Some.DAY);
        y.hours(0, 5000, 5000, 0);
        y.run();
        Due.is("it does not leave later to wait less", y.cost(), 5090);
    }

    private static void beginsAtOnceOrAtTheFirstSecond() {
        Due.sentence("Terms", "begins at once, or at the first second of its hours, when it is there "
                + "before");
        RoundPlans x = oneStop(0, Some.DAY);
        x.hours(0, 500, 600, 0);
        int[][] cases = {{0, 500}, {499, 500}, {500, 500}, {501, 501}, {599, 599}};
        for (int[] c : cases) {
            x.way(7, 0, c[0]);
            Due.is("run()", x.run(), 0);
            Due.is("there at " + c[0] + ": begun(0)", x.begun(0), c[1]);
            Due.is("there at " + c[0] + ": back(0)", x.back(0), c[1] + 100);
        }
    }

    private static void notBehindTheLast() {
        Due.sentence("Terms", "it must not be there behind the last one");
        RoundPlans x = oneStop(0, Some.DAY);
        x.hours(0, 500, 600, 700);
        x.way(7, 0, 600);
        Due.is("there at the last one", x.run(), 0);
        Due.is("begun(0)", x.begun(0), 600);
        Due.is("the service may go on behind it", x.back(0), 1400);
        x.way(7, 0, 601);
        Due.is("there a second behind it", x.run(), 1);
        RoundPlans y = Some.stops(2, 0, DEAR);
        y.vehicle(0, 0, Some.DAY, 1);
        y.hours(0, 0, 100, 50);
        y.hours(1, 0, 250, 0);
        Due.is("the second stop at its last one", y.run(), 0);
        y.hours(0, 0, 100, 51);
        Due.is("the second stop a second behind it", y.run(), 1);
        y.hours(0, 101, 101, 49);
        Due.is("waiting and service, just in time", y.run(), 0);
        y.hours(0, 102, 102, 49);
        Due.is("waiting and service, a second late", y.run(), 1);
    }

    private static void goesOnBehindTheService() {
        Due.sentence("Terms", "it goes on behind the service");
        RoundPlans x = Some.stops(2, 0, DEAR);
        x.vehicle(0, 0, Some.DAY, 1);
        x.before(0, 1);
        x.hours(0, 300, 400, 10000);
        x.hours(1, 0, Some.DAY, 1);
        x.run();
        Due.is("begun(0)", x.begun(0), 300);
        Due.is("begun(1)", x.begun(1), 10400);
        Due.is("back(0)", x.back(0), 10501);
        x.hours(0, 300, 400, 0);
        x.run();
        Due.is("begun(1) without a service", x.begun(1), 400);
    }

    private static void backByItsSecond() {
        Due.sentence("Terms", "At the end it drives to the yard, and must be BACK by its second");
        Due.is("just by it", oneStop(50, 250).run(), 0);
        Due.is("a second too late", oneStop(50, 249).run(), 1);
        Due.is("just by the day's last one", oneStop(Some.DAY - 200, Some.DAY).run(), 0);
        Due.is("no second to drive", oneStop(250, 250).run(), 1);
        RoundPlans x = oneStop(250, 250);
        Some.ways(x, 0);
        Due.is("no second to drive, and none needed", x.run(), 0);
        Due.is("back(0)", x.back(0), 250);
        Due.is("cost()", x.cost(), 0);
        RoundPlans y = oneStop(0, 1000);
        y.hours(0, 890, 890, 10);
        Due.is("waiting and service, just by it", y.run(), 0);
        y.hours(0, 890, 890, 11);
        Due.is("waiting and service, a second too late", y.run(), 1);
        RoundPlans far = oneStop(0, Some.DAY);
        far.way(7, 0, 50000);
        far.way(0, 7, 36399);
        Due.is("50000 and 36399 are just a day", far.run(), 0);
        far.way(0, 7, 50000);
        Due.is("50000 and 50000 are more", far.run(), 1);
    }

    private static void kilogramsAtMostItsMost() {
        Due.sentence("Terms", "Its stops' kilograms are together at most its most");
        int[][] cases = {{0, 0, 0}, {1, 6, 1}, {1, 7, 0}, {100000, 699999, 1}, {100000, 700000, 0},
            {100000, 1000000, 0}, {1, 0, 7}, {100000, 99999, 7}, {100000, 100000, 6}};
        for (int[] c : cases) {
            RoundPlans x = Some.stops(7, c[0], DEAR);
            x.vehicle(c[1], 0, Some.DAY, 1);
            Due.is("run() with 7 of " + c[0] + " and a most of " + c[1], x.run(), c[2]);
        }
    }

    private static void thatOneStandsFirst() {
        Due.sentence("Terms", "of two of them of which one comes before the other one .. that one "
                + "stands first");
        RoundPlans x = Some.stops(7, 0, DEAR);
        x.vehicle(0, 0, Some.DAY, 1);
        for (int stop = 6; stop > 0; stop--) {
            x.before(stop, stop - 1);
            x.way(stop, stop - 1, 5000);
        }
        x.run();
        Due.same("though it costs more", Some.round(x, 0), "6 5 4 3 2 1 0");
        Due.is("back(0)", x.back(0), 30200);
        RoundPlans y = Some.stops(7, 0, DEAR);
        y.vehicle(0, 0, Some.DAY, 1);
        y.before(6, 0);
        y.run();
        Due.same("not just in front of it", Some.round(y, 0), "1 2 3 4 5 6 0");
    }

    /** 2 before 1 before 0: with 1 elsewhere or skipped, nothing was told of 2 and 0. */
    private static void asToldOfTheseTwo() {
        Due.sentence("Terms", "(as before() told it of these two)");
        RoundPlans x = Some.stops(3, 0, DEAR);
        x.vehicle(0, 0, Some.DAY, 1);
        x.vehicle(0, 0, Some.DAY, 1);
        x.before(2, 1);
        x.before(1, 0);
        x.fixed(1, 1);
        x.fixed(0, 0);
        x.fixed(2, 0);
        x.run();
        Due.same("with 1 on another vehicle", Some.round(x, 0), "0 2");
        x.way(0, 2, 1);
        x.run();
        Due.is("with 1 on another vehicle: back(0)", x.back(0), 201);
        Due.is("with 1 on another vehicle: cost()", x.cost(), 401);
        x.penalty(1, 0);
        x.run();
        Due.same("with 1 skipped", Some.round(x, 0), "0 2");
        Due.is("with 1 skipped: back(0)", x.back(0), 201);
        Due.is("with 1 skipped: cost()", x.cost(), 201);
        x.before(2, 0);
        x.run();
        Due.same("when it was told of these two", Some.round(x, 0), "2 0");
        Due.is("when it was told of these two: back(0)", x.back(0), 300);
    }

    /** Each alone may ride, and all but stop 3 together. */
    private static void noTwoAreApart() {
        Due.sentence("Terms", "no two are apart");
        RoundPlans x = Some.stops(7, 0, DEAR);
        x.vehicle(0, 0, Some.DAY, 1);
        for (int stop = 0; stop < 7; stop++) {
            x.apart(3, stop, true);
        }
        Due.is("run()", x.run(), 1);
        Due.same("all but stop 3", Some.round(x, 0), "0 1 2 4 5 6");
        x.penalty(3, 6 * DEAR - 499);
        x.run();
        Due.same("200 for stop 3 and 700 for the others: a cent less", Some.round(x, 0), "3");
        x.penalty(3, 6 * DEAR - 500);
        x.run();
        Due.same("the same cost: stop 0 is driven", Some.round(x, 0), "0 1 2 4 5 6");
    }

    private static void noneIsFixedToAnother() {
        Due.sentence("Terms", "none is fixed to another vehicle");
        RoundPlans x = Some.stops(2, 1, DEAR);
        x.vehicle(2, 0, Some.DAY, 1);
        x.vehicle(1, 0, Some.DAY, 1);
        x.fixed(0, 1);
        x.fixed(1, 1);
        Due.is("though vehicle 0 has room", x.run(), 1);
        Due.same("vehicles", Some.vehicles(x, 2), "1 3");
    }

    private static void rateForEachSecond() {
        Due.sentence("Terms", "Its COST is its rate for each second from leaving to being back");
        int[] rates = {0, 1, 999, 1000};
        for (int rate : rates) {
            RoundPlans x = Some.stops(1, 0, Some.DEAREST);
            x.vehicle(0, 1000, Some.DAY, rate);
            x.hours(0, 2000, 2000, 30);
            x.run();
            Due.is("waiting and service count: cost()", x.cost(), 1130L * rate);
        }
        RoundPlans y = Some.stops(3, 1, Some.DEAREST);
        for (int k = 0; k < 3; k++) {
            y.vehicle(1, 0, Some.DAY, 1000);
            y.hours(k, 86299, 86299, 0);
        }
        y.run();
        Due.is("three whole days at 1000", y.cost(), 3 * 86399000L);
    }

    private static void alsoAFixedOneMayBeSkipped() {
        Due.sentence("Terms", "then it is SKIPPED (also a fixed one may be)");
        RoundPlans x = Some.stops(1, 0, 200);
        x.vehicle(0, 0, Some.DAY, 1);
        x.fixed(0, 0);
        Due.is("200 to skip, 200 to drive", x.run(), 0);
        x.penalty(0, 199);
        Due.is("199 to skip, 200 to drive", x.run(), 1);
        Due.is("vehicleOf(0)", x.vehicleOf(0), 3);
        x.penalty(0, DEAR);
        x.hours(0, 0, 99, 0);
        Due.is("too late for it", x.run(), 1);
    }

    /** Any two of the three are back in time, but not all three. */
    private static void aRoundOfJustThese() {
        Due.sentence("Terms", "For each vehicle with stops there is a round of just these");
        RoundPlans x = Some.stops(3, 0, DEAR);
        x.vehicle(0, 0, 399, 1);
        Due.is("run()", x.run(), 1);
        Due.same("vehicles", Some.vehicles(x, 3), "0 0 3");
        Due.same("round", Some.round(x, 0), "0 1");
        x.vehicle(0, 0, 400, 2);
        Due.is("run() with a second more", x.run(), 0);
        Due.same("vehicles", Some.vehicles(x, 3), "0 0 1");
        x.apart(0, 1, true);
        x.run();
        Due.same("vehicles, 0 and 1 apart", Some.vehicles(x, 3), "0 1 0");
        Due.same("round of vehicle 0", Some.round(x, 0), "0 2");
        Due.same("round of vehicle 1", Some.round(x, 1), "1");
    }

    /** A second sooner, by the last rows of all; else the first row. */
    private static void theOneThatIsBackFirst() {
        Due.sentence("Terms", "Of such rounds the vehicle has the one that is back first");
        for (int rate = 0; rate <= 1; rate++) {
            RoundPlans x = Some.stops(7, 0, DEAR);
            x.vehicle(0, 0, Some.DAY, rate);
            x.run();
            Due.same("all the same", Some.round(x, 0), "0 1 2 3 4 5 6");
            x.way(6, 5, 99);
            x.run();
            Due.same("99 from 6 to 5", Some.round(x, 0), "0 1 2 3 4 6 5");
            x.way(0, 7, 99);
            x.run();
            Due.same("99 from 0 to the yard", Some.round(x, 0), "1 2 3 4 6 5 0");
            x.way(7, 6, 99);
            x.way(2, 0, 99);
            x.run();
            Due.same("99 from the yard to 6, and from 2 to 0", Some.round(x, 0), "6 5 1 3 4 2 0");
            Due.is("back(0)", x.back(0), 796);
        }
    }

    /** While one waits, the order of what was before may cost nothing: then it is the first. */
    private static void ofThoseTheFirstOne() {
        Due.sentence("Terms", "of those the first one: by the numbers of its stops, in its order");
        RoundPlans x = Some.stops(4, 0, DEAR);
        x.vehicle(0, 0, Some.DAY, 1);
        x.hours(3, 1000, 1000, 0);
        x.way(1, 0, 1);
        x.way(2, 1, 1);
        x.run();
        Due.same("the slower row, but the first one", Some.round(x, 0), "0 1 2 3");
        Due.is("back(0)", x.back(0), 1100);
        x.way(1, 2, 701);
        x.run();
        Due.same("0 1 2 is a second too slow", Some.round(x, 0), "0 2 1 3");
        x.way(1, 2, 700);
        x.run();
        Due.same("0 1 2 is just in time", Some.round(x, 0), "0 1 2 3");
        x.way(1, 2, 100);
        x.hours(2, 0, Some.DAY, 600);
        x.run();
        Due.same("with a service, just in time", Some.round(x, 0), "0 1 2 3");
        x.hours(2, 0, Some.DAY, 601);
        x.run();
        Due.same("with a service, a second too slow", Some.round(x, 0), "0 2 1 3");
    }

    private static void roundsAndPenalties() {
        Due.sentence("Terms", "The plan's cost are the costs of the rounds and the penalties of what is "
                + "skipped");
        RoundPlans x = Some.stops(5, 1, DEAR);
        for (int k = 0; k < 3; k++) {
            x.vehicle(1, 0, Some.DAY, 1 + k);
            x.fixed(k, k);
        }
        x.penalty(3, 7);
        x.penalty(4, 90);
        Due.is("run()", x.run(), 2);
        Due.is("cost()", x.cost(), 200 + 400 + 600 + 7 + 90);
    }

    private static void theBestCostsLeast() {
        Due.sentence("Terms", "THE BEST plan costs least");
        RoundPlans x = Some.stops(2, 0, 150);
        x.vehicle(0, 0, Some.DAY, 1);
        Due.is("300 to drive both, 300 to skip both", x.run(), 0);
        x.penalty(1, 149);
        Due.is("300 to drive both, 299 to skip both", x.run(), 2);
        Due.is("cost()", x.cost(), 299);
        x.vehicle(0, 0, Some.DAY, 0);
        Due.is("0 to drive both", x.run(), 0);
        Due.same("though by vehicle 1", Some.vehicles(x, 2), "1 1");
    }

    private static void ofThoseTheFirstPlan() {
        Due.sentence("Terms", "of those it is the first: by the numbers of the vehicles of stops 0, 1, ..");
        RoundPlans x = Some.stops(2, 1, 1000);
        x.vehicle(1, 0, Some.DAY, 1);
        x.vehicle(1, 0, Some.DAY, 1);
        x.run();
        Due.same("0 1 and 1 0 cost the same", Some.vehicles(x, 2), "0 1");
        RoundPlans y = Some.stops(2, 0, 1000);
        Some.ways(y, 0);
        for (int k = 0; k < 3; k++) {
            y.vehicle(0, 0, Some.DAY, 1);
        }
        y.run();
        Due.same("nothing costs anything", Some.vehicles(y, 2), "0 0");
        y.apart(0, 1, true);
        y.run();
        Due.same("nothing costs anything, but apart", Some.vehicles(y, 2), "0 1");
    }

    /** The number of stop 0's vehicle counts before those of all others, and 3 is a number too. */
    private static void threeForWhatIsSkipped() {
        Due.sentence("Terms", "(3 for what is skipped)");
        RoundPlans x = Some.stops(2, 1, 1000);
        x.vehicle(1, 0, Some.DAY, 1);
        x.vehicle(1, 0, Some.DAY, 1);
        x.fixed(1, 0);
        x.penalty(1, 200);
        Due.is("0 3 and 1 0 cost the same", x.run(), 1);
        Due.same("0 3 is the first", Some.vehicles(x, 2), "0 3");
        x.penalty(1, 201);
        x.run();
        Due.same("1 0 costs a cent less", Some.vehicles(x, 2), "1 0");
        RoundPlans y = Some.stops(2, 1, 200);
        y.vehicle(0, 0, Some.DAY, 0);
        y.vehicle(0, 0, Some.DAY, 0);
        y.vehicle(1, 0, Some.DAY, 1);
        y.run();
        Due.same("2 3, 3 2 and 3 3 cost the same", Some.vehicles(y, 2), "2 3");
        RoundPlans z = Some.stops(7, 0, 0);
        z.vehicle(0, 0, Some.DAY, 0);
        Due.is("to drive for nothing is before to skip for nothing", z.run(), 0);
    }

    private static void whatWasFoundStays() {
        Due.sentence("Terms", "What run() found stays until the next one");
        RoundPlans x = Some.stops(3, 1, 1000);
        x.vehicle(2, 0, Some.DAY, 1);
        x.run();
        String found = Some.answers(x);
        x.stop(1);
        x.vehicle(4, 10, Some.DAY, 0);
        x.hours(0, 300, 400, 5);
        x.penalty(2, 1);
        x.way(7, 0, 7);
        x.fixed(1, 1);
        x.apart(0, 1, true);
        x.before(1, 0);
        Due.is("a refused one", x.stop(-1), -1);
        Due.same("behind one call of each kind", Some.answers(x), found);
        Due.is("run()", x.run(), 0);
        Due.is("then another one: vehicleOf(1)", x.vehicleOf(1), 1);
        Due.is("then another one: cost()", x.cost(), 405);
        String next = Some.answers(x);
        x.run();
        Due.same("once more the same", Some.answers(x), next);
    }

    public static void main(String[] args) {
        at512Calls();
        stopsSevenAtMost();
        hoursAtFirst();
        serviceAtFirst();
        penaltyAtFirst();
        vehiclesThreeAtMost();
        theYardIsPlace7();
        waysAtFirst();
        aWayFromAPlaceToAnotherOne();
        apartOnNoVehicle();
        beforeOnTheSameVehicle();
        oneOrMore();
        leavesAtItsSecond();
        beginsAtOnceOrAtTheFirstSecond();
        notBehindTheLast();
        goesOnBehindTheService();
        backByItsSecond();
        kilogramsAtMostItsMost();
        thatOneStandsFirst();
        asToldOfTheseTwo();
        noTwoAreApart();
        noneIsFixedToAnother();
        rateForEachSecond();
        alsoAFixedOneMayBeSkipped();
        aRoundOfJustThese();
        theOneThatIsBackFirst();
        ofThoseTheFirstOne();
        roundsAndPenalties();
        theBestCostsLeast();
        ofThoseTheFirstPlan();
        threeForWhatIsSkipped();
        whatWasFoundStays();
        Due.end();
    }
}
