/**
 * Promises 1 to 9: each sentence that names a boundary case has a test of its
 * own here, with its promise's number and its words. That a refused call leaves
 * everything as it was is looked at in RefusedTest, too.
 */
public final class TellingEdgesTest {
    private static void promise1NoStops() {
        Due.sentence("Promise 1", "No stops");
        RoundPlans x = new RoundPlans();
        x.vehicle(0, 0, Some.DAY, 0);
        for (int n = -1; n <= 8; n++) {
            Due.no("hours(" + n + ", 0, 0, 0)", x.hours(n, 0, 0, 0));
            Due.no("penalty(" + n + ", 0)", x.penalty(n, 0));
            Due.no("fixed(" + n + ", 0)", x.fixed(n, 0));
            Due.no("fixed(" + n + ", NONE)", x.fixed(n, -1));
            Due.no("apart(" + n + ", 0, false)", x.apart(n, 0, false));
            Due.no("before(0, " + n + ")", x.before(0, n));
        }
        Due.is("run()", x.run(), 0);
        Due.is("vehicleOf(0)", x.vehicleOf(0), -1);
        Due.is("the first stop", x.stop(0), 0);
    }

    private static void promise1NoVehicles() {
        Due.sentence("Promise 1", "no vehicles");
        RoundPlans x = Some.stops(1, 0, 5);
        for (int n = 0; n <= 4; n++) {
            Due.no("fixed(0, " + n + ")", x.fixed(0, n));
        }
        Due.is("run()", x.run(), 1);
        Due.is("vehicleOf(0)", x.vehicleOf(0), 3);
        for (int n = -1; n <= 3; n++) {
            Due.is("saved(" + n + ")", x.saved(n), -1);
        }
        Due.is("the first vehicle", x.vehicle(0, 0, 0, 0), 0);
    }

    private static void promise1NothingWasFound() {
        Due.sentence("Promise 1", "nothing was found");
        RoundPlans x = new RoundPlans();
        String nothing = Some.answers(x);
        Due.yes("no answer but NONE", nothing.replaceAll("(stop|vehicle) -?\\d", "")
                .matches("cost -1[^0-9]*(-1[^0-9]*)*"));
        x.stop(0);
        x.vehicle(0, 0, Some.DAY, 0);
        Due.same("with a stop and a vehicle", Some.answers(x), nothing);
    }

    private static void promise2OfKilograms() {
        Due.sentence("Promise 2", "One more stop, of 0 .. 100000 kilograms");
        RoundPlans x = new RoundPlans();
        Due.is("stop(-1)", x.stop(-1), -1);
        Due.is("stop(100001)", x.stop(100001), -1);
        Due.is("stop(MIN)", x.stop(Some.MIN), -1);
        Due.is("stop(MAX)", x.stop(Some.MAX), -1);
        Due.is("no stop so far", x.run(), 0);
        Due.is("stop(0)", x.stop(0), 0);
        Due.is("stop(100000)", x.stop(100000), 1);
        x.penalty(0, 1000);
        x.penalty(1, 1000);
        x.vehicle(99999, 0, Some.DAY, 1);
        Due.is("run() with 99999", x.run(), 1);
        Due.same("only 0 kilograms with 99999", Some.vehicles(x, 2), "0 3");
        x.vehicle(100000, 0, Some.DAY, 1);
        Due.is("run() with 100000", x.run(), 0);
        Due.same("both with 100000", Some.vehicles(x, 2), "1 1");
    }

    private static void promise2AnswersItsNumber() {
        Due.sentence("Promise 2", "Answers its number");
        RoundPlans x = new RoundPlans();
        for (int number = 0; number < 7; number++) {
            Due.is("a wrong one between", x.stop(number % 2 == 0 ? -1 : 100001), -1);
            Due.is("stop(" + number + ")", x.stop(number), number);
        }
    }

    /** The eighth is refused, and neither the first nor the last of the seven gets its load. */
    private static void promise2NoneWhenThereAreSeven() {
        Due.sentence("Promise 2", "NONE when there are 7");
        RoundPlans x = Some.stops(7, 5, 100000);
        x.vehicle(35, 0, Some.DAY, 1);
        for (int k = 0; k < 3; k++) {
            Due.is("stop(6)", x.stop(6), -1);
            Due.is("stop(0)", x.stop(0), -1);
            Due.is("stop(100000)", x.stop(100000), -1);
        }
        Due.is("35 kilograms as before", x.run(), 0);
        Due.same("no eighth", Some.round(x, 0), "0 1 2 3 4 5 6");
        Due.is("vehicleOf(7)", x.vehicleOf(7), -1);
        RoundPlans y = Some.stops(7, 5, 100000);
        y.vehicle(34, 0, Some.DAY, 1);
        y.stop(0);
        Due.is("not 30 either", y.run(), 1);
        RoundPlans z = Some.stops(6, 5, 100000);
        Due.is("the seventh", z.stop(100000), 6);
        Due.is("the eighth", z.stop(100000), -1);
    }

    /** What each stop and its times are is seen from when it is begun and when its vehicle is back. */
    private static RoundPlans oneStop() {
        RoundPlans x = Some.stops(1, 0, Some.DEAREST);
        x.vehicle(0, 0, Some.DAY, 1);
        return x;
    }

    private static void promise3HoursOfTheDay() {
        Due.sentence("Promise 3", "A stop's hours, 0 .. 86399");
        RoundPlans x = oneStop();
        Some.ways(x, 0);
        Due.yes("hours(0, 0, 0, 0)", x.hours(0, 0, 0, 0));
        Due.is("run()", x.run(), 0);
        Due.is("begun at 0", x.begun(0), 0);
        Due.no("hours(0, -1, 0, 0)", x.hours(0, -1, 0, 0));
        Due.no("hours(0, -1, -1, 0)", x.hours(0, -1, -1, 0));
        Due.yes("hours(0, 86399, 86399, 0)", x.hours(0, 86399, 86399, 0));
        Due.is("run()", x.run(), 0);
        Due.is("begun at 86399", x.begun(0), 86399);
        Due.is("back at 86399", x.back(0), 86399);
        Due.no("hours(0, 86399, 86400, 0)", x.hours(0, 86399, 86400, 0));
        Due.no("hours(0, 86400, 86400, 0)", x.hours(0, 86400, 86400, 0));
        Due.no("hours(0, MIN, MAX, 0)", x.hours(0, Some.MIN, Some.MAX, 0));
        x.run();
        Due.is("begun at 86399 still", x.begun(0), 86399);
        Due.yes("hours(0, 0, 86399, 0)", x.hours(0, 0, 86399, 0));
        x.run();
        Due.is("begun at 0 again", x.begun(0), 0);
    }

    private static void promise3FirstAtMostTheLast() {
        Due.sentence("Promise 3", "the first at most the last");
        RoundPlans x = oneStop();
        Due.yes("hours(0, 500, 500, 0)", x.hours(0, 500, 500, 0));
        Due.no("hours(0, 501, 500, 0)", x.hours(0, 501, 500, 0));
        Due.no("hours(0, 86399, 0, 0)", x.hours(0, 86399, 0, 0));
        x.run();
        Due.is("begun at 500", x.begun(0), 500);
        x.way(7, 0, 500);
        Due.is("500 is not behind the last one", x.run(), 0);
        x.way(7, 0, 501);
        Due.is("501 is", x.run(), 1);
        Due.yes("hours(0, 500, 501, 0)", x.hours(0, 500, 501, 0));
        Due.is("501 is not behind the last one any more", x.run(), 0);
    }

    private static void promise3Service() {
        Due.sentence("Promise 3", "its service, 0 .. 10000");
        RoundPlans x = oneStop();
        Due.yes("hours(0, 0, 86399, 10000)", x.hours(0, 0, 86399, 10000));
        Due.no("hours(0, 0, 86399, 10001)", x.hours(0, 0, 86399, 10001));
        Due.no("hours(0, 0, 86399, -1)", x.hours(0, 0, 86399, -1));
        Due.no("hours(0, 0, 86399, MIN)", x.hours(0, 0, 86399, Some.MIN));
        Due.no("hours(0, 0, 86399, MAX)", x.hours(0, 0, 86399, Some.MAX));
        x.run();
        Due.is("back behind 10000", x.back(0), 10200);
        Due.yes("hours(0, 0, 86399, 0)", x.hours(0, 0, 86399, 0));
        x.run();
        Due.is("back behind 0", x.back(0), 200);
    }

    private static void promise3FalseWhenThereIsNoSuchStop() {
        Due.sentence("Promise 3", "false when these are not such (A stop's)");
        RoundPlans x = oneStop();
        for (int stop : Some.NOBODY) {
            Due.no("hours(" + stop + ", 700, 800, 5)", x.hours(stop, 700, 800, 5));
        }
        Due.no("hours(1, 700, 800, 5): not yet", x.hours(1, 700, 800, 5));
        x.stop(0);
        x.penalty(1, Some.DEAREST);
        x.run();
        Due.is("begun(0)", x.begun(0), 100);
        Due.is("begun(1): nothing was kept for it", x.begun(1), 200);
        Due.is("back(0)", x.back(0), 300);
        Due.yes("hours(1, 700, 800, 5): now", x.hours(1, 700, 800, 5));
        Due.no("hours(2, 700, 800, 5): not yet", x.hours(2, 700, 800, 5));
    }

    private static void promise4Cents() {
        Due.sentence("Promise 4", "A stop's penalty, 0 .. 1000000000");
        RoundPlans x = new RoundPlans();
        x.stop(0);
        long[] taken = {1000000000L, 0, 1, 999999999L};
        long[] refused = {-1, 1000000001L, Long.MIN_VALUE, Long.MAX_VALUE, 1L << 32, (1L << 32) + 7,
            -(1L << 32) + 7, 1L << 63 | 7};
        for (long cents : taken) {
            Due.yes("penalty(0, " + cents + ")", x.penalty(0, cents));
            for (long wrong : refused) {
                Due.no("penalty(0, " + wrong + ")", x.penalty(0, wrong));
            }
            x.run();
            Due.is("cost()", x.cost(), cents);
        }
    }

    private static void promise4NoSuchStop() {
        Due.sentence("Promise 4", "Answers true, or false (A stop's)");
        RoundPlans x = Some.stops(6, 0, 1);
        for (int stop : Some.NOBODY) {
            Due.no("penalty(" + stop + ", 50)", x.penalty(stop, 50));
        }
        Due.no("penalty(6, 50): not yet", x.penalty(6, 50));
        x.stop(0);
        x.run();
        Due.is("cost()", x.cost(), 6);
        Due.yes("penalty(6, 50): now", x.penalty(6, 50));
        x.run();
        Due.is("cost()", x.cost(), 56);
    }

    private static void promise5Most() {
        Due.sentence("Promise 5", "a most of 0 .. 1000000");
        RoundPlans x = Some.stops(7, 100000, 100000);
        x.stop(0);
        int[] wrong = {-1, 1000001, Some.MIN, Some.MAX};
        for (int most : wrong) {
            Due.is("vehicle(" + most + ", 0, 86399, 1)", x.vehicle(most, 0, 86399, 1), -1);
        }
        Due.is("vehicle(0, 0, 86399, 1)", x.vehicle(0, 0, 86399, 1), 0);
        Due.is("0 carries nothing", x.run(), 7);
        Due.is("vehicle(1000000, 0, 86399, 1)", x.vehicle(1000000, 0, 86399, 1), 1);
        Due.is("1000000 carries all", x.run(), 0);
        Due.is("all on vehicle 1", x.at(1, 6), 6);
    }

    private static void promise5LeavingAndBack() {
        Due.sentence("Promise 5", "leaving and back 0 .. 86399");
        RoundPlans x = oneStop();
        Some.ways(x, 0);
        int[][] wrong = {{-1, 0}, {-1, -1}, {Some.MIN, 5}, {0, 86400}, {86400, 86400}, {0, Some.MAX},
            {Some.MIN, Some.MAX}, {Some.MAX, Some.MAX}};
        for (int[] w : wrong) {
            Due.is("vehicle(0, " + w[0] + ", " + w[1] + ", 0)", x.vehicle(0, w[0], w[1], 0), -1);
        }
        Due.is("vehicle(0, 0, 0, 0)", x.vehicle(0, 0, 0, 0), 1);
        Due.is("vehicle(0, 86399, 86399, 0)", x.vehicle(0, 86399, 86399, 0), 2);
        x.fixed(0, 1);
        Due.is("run()", x.run(), 0);
        Due.is("begun at 0", x.begun(0), 0);
        x.fixed(0, 2);
        Due.is("run()", x.run(), 0);
        Due.is("begun at 86399", x.begun(0), 86399);
        Due.is("back at 86399", x.back(2), 86399);
    }

    private static void promise5LeavingAtMostBack() {
        Due.sentence("Promise 5", "leaving at most back");
        RoundPlans x = new RoundPlans();
        Due.is("vehicle(0, 501, 500, 0)", x.vehicle(0, 501, 500, 0), -1);
        Due.is("vehicle(0, 1, 0, 0)", x.vehicle(0, 1, 0, 0), -1);
        Due.is("vehicle(0, 86399, 86398, 0)", x.vehicle(0, 86399, 86398, 0), -1);
        Due.is("vehicle(0, 500, 500, 0)", x.vehicle(0, 500, 500, 0), 0);
        Due.is("vehicle(0, 499, 500, 0)", x.vehicle(0, 499, 500, 0), 1);
    }

    private static void promise5Rate() {
        Due.sentence("Promise 5", "a rate of 0 .. 1000");
        RoundPlans x = Some.stops(1, 0, Some.DEAREST);
        int[] wrong = {-1, 1001, Some.MIN, Some.MAX};
        for (int rate : wrong) {
            Due.is("vehicle(0, 0, 86399, " + rate + ")", x.vehicle(0, 0, 86399, rate), -1);
        }
        Due.is("vehicle(0, 0, 86399, 1000)", x.vehicle(0, 0, 86399, 1000), 0);
        x.run();
        Due.is("200 seconds at 1000", x.cost(), 200000);
        Due.is("vehicle(0, 0, 86399, 0)", x.vehicle(0, 0, 86399, 0), 1);
        x.run();
        Due.is("200 seconds at 0", x.cost(), 0);
        Due.is("vehicleOf(0)", x.vehicleOf(0), 1);
    }

    private static void promise5AnswersItsNumber() {
        Due.sentence("Promise 5", "Answers its number");
        RoundPlans x = new RoundPlans();
        for (int number = 0; number < 3; number++) {
            Due.is("a wrong one between", x.vehicle(-1, 0, 0, 0), -1);
            Due.is("vehicle(9, 0, 5, 1)", x.vehicle(9, 0, 5, 1), number);
        }
    }

    private static void promise5NoneWhenThereAreThree() {
        Due.sentence("Promise 5", "NONE when there are 3");
        RoundPlans x = Some.stops(1, 5, Some.DEAREST);
        for (int k = 0; k < 3; k++) {
            x.vehicle(5, 10 * k, 1000, 2 + k);
        }
        for (int k = 0; k < 4; k++) {
            Due.is("a fourth, that costs nothing", x.vehicle(1000000, 0, 86399, 0), -1);
            Due.is("a fourth, that carries nothing", x.vehicle(0, 0, 0, 0), -1);
        }
        for (int k = 0; k < 3; k++) {
            x.fixed(0, k);
            x.run();
            Due.is("vehicle " + k + " leaves as before", x.begun(0), 100 + 10 * k);
            Due.is("vehicle " + k + " costs as before", x.cost(), 200 * (2 + k));
        }
        Due.no("fixed(0, 3)", x.fixed(0, 3));
        Due.is("saved(3)", x.saved(3), -1);
    }

    private static void promise6TwoDifferentPlaces() {
        Due.sentence("Promise 6", "A way between two different places");
        RoundPlans x = new RoundPlans();
        for (int from = 0; from <= 7; from++) {
            for (int to = 0; to <= 7; to++) {
                Due.is("way(" + from + ", " + to + ", 9)", Some.number(x.way(from, to, 9)),
                        from == to ? 0 : 1);
            }
        }
    }

    private static void promise6Places() {
        Due.sentence("Promise 6", "(0 .. 7, whatever stops there are)");
        RoundPlans x = new RoundPlans();
        Due.yes("way(7, 6, 11) without any stops", x.way(7, 6, 11));
        Due.yes("way(6, 7, 13) without any stops", x.way(6, 7, 13));
        for (int place : Some.NOBODY) {
            if (place != 7) {
                Due.no("way(" + place + ", 6, 5)", x.way(place, 6, 5));
                Due.no("way(7, " + place + ", 5)", x.way(7, place, 5));
            }
        }
        Due.no("way(8, 8, 5)", x.way(8, 8, 5));
        for (int k = 0; k < 7; k++) {
            x.stop(0);
        }
        x.penalty(6, Some.DEAREST);
        x.vehicle(0, 0, 300, 1);
        x.run();
        Due.is("begun(6): told before the stop was", x.begun(6), 11);
        Due.is("back(0): told before the stop was", x.back(0), 24);
    }

    private static void promise6Seconds() {
        Due.sentence("Promise 6", "0 .. 50000 seconds");
        RoundPlans x = oneStop();
        Due.yes("way(7, 0, 0)", x.way(7, 0, 0));
        Due.yes("way(0, 7, 50000)", x.way(0, 7, 50000));
        int[] wrong = {-1, 50001, Some.MIN, Some.MAX};
        for (int seconds : wrong) {
            Due.no("way(7, 0, " + seconds + ")", x.way(7, 0, seconds));
            Due.no("way(0, 7, " + seconds + ")", x.way(0, 7, seconds));
        }
        x.run();
        Due.is("0 seconds", x.begun(0), 0);
        Due.is("50000 seconds", x.back(0), 50000);
    }

    private static void promise7FixedToAVehicle() {
        Due.sentence("Promise 7", "A stop is fixed to a vehicle");
        RoundPlans x = Some.stops(7, 0, 100000);
        for (int k = 0; k < 3; k++) {
            x.vehicle(0, 0, Some.DAY, k);
        }
        for (int vehicle = 0; vehicle < 3; vehicle++) {
            Due.yes("fixed(0, " + vehicle + ")", x.fixed(0, vehicle));
            Due.yes("fixed(6, " + vehicle + ")", x.fixed(6, vehicle));
            Due.yes("fixed(6, " + vehicle + ") once more", x.fixed(6, vehicle));
            x.run();
            Due.same("vehicle " + vehicle, Some.vehicles(x, 7),
                    vehicle + " 0 0 0 0 0 " + vehicle);
        }
    }

    private static void promise7ToNone() {
        Due.sentence("Promise 7", "or (NONE) to none");
        RoundPlans x = Some.stops(2, 0, 100000);
        Due.yes("fixed(0, NONE) without any vehicles", x.fixed(0, -1));
        x.vehicle(0, 0, Some.DAY, 1);
        x.vehicle(0, 0, Some.DAY, 3);
        x.fixed(0, 1);
        x.fixed(1, 1);
        x.run();
        Due.same("both are fixed", Some.vehicles(x, 2), "1 1");
        Due.yes("fixed(0, NONE)", x.fixed(0, -1));
        x.run();
        Due.same("only 1 is fixed", Some.vehicles(x, 2), "0 1");
        Due.yes("fixed(1, NONE)", x.fixed(1, -1));
        x.run();
        Due.same("none is fixed", Some.vehicles(x, 2), "0 0");
    }

    private static void promise7FalseWhenThereAreNoneSuch() {
        Due.sentence("Promise 7", "false when there are none such");
        RoundPlans x = Some.stops(1, 0, 100000);
        x.vehicle(0, 0, Some.DAY, 2);
        x.vehicle(0, 0, Some.DAY, 3);
        x.fixed(0, 1);
        for (int n : Some.NOBODY) {
            Due.no("fixed(" + n + ", 0)", x.fixed(n, 0));
            Due.no("fixed(" + n + ", NONE)", x.fixed(n, -1));
            if (n != -1) {
                Due.no("fixed(0, " + n + ")", x.fixed(0, n));
            }
        }
        Due.no("fixed(1, 0): no such stop yet", x.fixed(1, 0));
        Due.no("fixed(0, 2): no such vehicle yet", x.fixed(0, 2));
        Due.no("fixed(0, 3): no vehicle ever", x.fixed(0, 3));
        x.run();
        Due.is("fixed to 1 still", x.vehicleOf(0), 1);
        x.stop(0);
        x.penalty(1, 100000);
        x.vehicle(0, 0, Some.DAY, 1);
        Due.yes("fixed(0, 2): now", x.fixed(0, 2));
        Due.yes("fixed(1, 0): now", x.fixed(1, 0));
        x.run();
        Due.same("each with its own", Some.vehicles(x, 2), "2 0");
    }

    private static void promise8FromNowOnOrNot() {
        Due.sentence("Promise 8", "Two stops are apart from now on, or not");
        RoundPlans x = Some.stops(2, 0, 100000);
        x.vehicle(0, 0, Some.DAY, 1);
        x.vehicle(0, 0, Some.DAY, 1);
        Due.yes("apart(0, 1, false), which they are not", x.apart(0, 1, false));
        x.run();
        Due.same("together", Some.vehicles(x, 2), "0 0");
        Due.yes("apart(0, 1, true)", x.apart(0, 1, true));
        Due.yes("apart(1, 0, true), which they are", x.apart(1, 0, true));
        x.run();
        Due.same("apart", Some.vehicles(x, 2), "0 1");
        Due.yes("apart(1, 0, false)", x.apart(1, 0, false));
        x.run();
        Due.same("told twice, taken back once", Some.vehicles(x, 2), "0 0");
    }

    private static void promise8EachPair() {
        Due.sentence("Promise 8", "Two stops are apart (each pair is its own)");
        for (int a = 0; a < 7; a++) {
            for (int b = 0; b < 7; b++) {
                if (a != b) {
                    RoundPlans x = Some.stops(7, 0, 100000);
                    x.vehicle(0, 0, Some.DAY, 1);
                    Due.yes("apart(" + a + ", " + b + ", true)", x.apart(a, b, true));
                    Due.is("run()", x.run(), 1);
                    Due.is("the one behind is skipped", x.vehicleOf(Math.max(a, b)), 3);
                    x.apart(b, a, false);
                    Due.is("run() when it was taken back", x.run(), 0);
                }
            }
        }
    }

    private static void promise8FalseWhenThereAreNoneSuch() {
        Due.sentence("Promise 8", "false when there are none such");
        RoundPlans x = Some.stops(2, 0, 100000);
        x.vehicle(0, 0, Some.DAY, 1);
        for (int n : Some.NOBODY) {
            Due.no("apart(" + n + ", 1, true)", x.apart(n, 1, true));
            Due.no("apart(1, " + n + ", true)", x.apart(1, n, true));
            Due.no("apart(" + n + ", " + n + ", true)", x.apart(n, n, true));
        }
        Due.no("apart(0, 2, true): not yet", x.apart(0, 2, true));
        Due.no("apart(2, 0, true): not yet", x.apart(2, 0, true));
        x.stop(0);
        x.penalty(2, 100000);
        Due.is("no two are apart", x.run(), 0);
        x.apart(0, 1, true);
        for (int n : Some.NOBODY) {
            Due.no("apart(" + n + ", 1, false)", x.apart(n, 1, false));
            Due.no("apart(0, " + n + ", false)", x.apart(0, n, false));
        }
        Due.is("two are", x.run(), 1);
        Due.yes("apart(0, 2, true): now", x.apart(0, 2, true));
    }

    private static void promise8FalseWhenBothAreTheSame() {
        Due.sentence("Promise 8", "false when .. both are the same");
        RoundPlans x = Some.stops(7, 0, 100000);
        x.vehicle(0, 0, Some.DAY, 1);
        for (int stop = 0; stop < 7; stop++) {
            Due.no("apart(" + stop + ", " + stop + ", true)", x.apart(stop, stop, true));
            Due.no("apart(" + stop + ", " + stop + ", false)", x.apart(stop, stop, false));
        }
        Due.is("all are driven", x.run(), 0);
    }

    private static void promise9FalseWhenThereAreNoneSuch() {
        Due.sentence("Promise 9", "false when there are none such");
        RoundPlans x = Some.stops(2, 0, 100000);
        x.vehicle(0, 0, Some.DAY, 1);
        for (int n : Some.NOBODY) {
            Due.no("before(" + n + ", 0)", x.before(n, 0));
            Due.no("before(1, " + n + ")", x.before(1, n));
            Due.no("before(" + n + ", " + n + ")", x.before(n, n));
        }
        Due.no("before(2, 0): not yet", x.before(2, 0));
        Due.no("before(0, 2): not yet", x.before(0, 2));
        x.stop(0);
        x.penalty(2, 100000);
        x.run();
        Due.same("in the order of their numbers", Some.round(x, 0), "0 1 2");
        Due.yes("before(2, 0): now", x.before(2, 0));
        x.run();
        Due.same("2 stands before 0", Some.round(x, 0), "1 2 0");
    }

    private static void promise9FalseWhenBothAreTheSame() {
        Due.sentence("Promise 9", "false when .. both are the same");
        RoundPlans x = Some.stops(7, 0, 100000);
        x.vehicle(0, 0, Some.DAY, 1);
        for (int stop = 0; stop < 7; stop++) {
            Due.no("before(" + stop + ", " + stop + ")", x.before(stop, stop));
        }
        Due.is("all are driven", x.run(), 0);
    }

    private static void promise9FalseWhenItDoesAlready() {
        Due.sentence("Promise 9", "false when .. it does already");
        RoundPlans x = Some.stops(7, 0, 0);
        for (int a = 0; a < 7; a++) {
            for (int b = a + 1; b < 7; b++) {
                Due.yes("before(" + a + ", " + b + ")", x.before(a, b));
                Due.no("before(" + a + ", " + b + ") again", x.before(a, b));
            }
        }
        for (int a = 0; a < 7; a++) {
            for (int b = 0; b < 7; b++) {
                Due.no("before(" + a + ", " + b + ") at the end", x.before(a, b));
            }
        }
        RoundPlans y = Some.stops(3, 0, 0);
        y.before(0, 1);
        y.before(1, 2);
        Due.yes("by steps alone it was not told of these two", y.before(0, 2));
        Due.no("now it was", y.before(0, 2));
    }

    /** Rings of 2, 3, .. 7 stops: the call that would close each one is refused. */
    private static void promise9FalseWhenItWouldComeBeforeItself() {
        Due.sentence("Promise 9", "the other one would come before itself (.. step by step)");
        for (int ring = 2; ring <= 7; ring++) {
            RoundPlans x = Some.stops(7, 0, 0);
            RoundPlans y = Some.stops(7, 0, 0);
            for (int stop = 0; stop + 1 < ring; stop++) {
                Due.yes("before(" + stop + ", " + (stop + 1) + ")", x.before(stop, stop + 1));
            }
            for (int stop = ring - 1; stop > 0; stop--) {
                Due.yes("before(" + (stop - 1) + ", " + stop + ")", y.before(stop - 1, stop));
            }
            Due.no("before(" + (ring - 1) + ", 0)", x.before(ring - 1, 0));
            Due.no("before(" + (ring - 1) + ", 0), told backwards", y.before(ring - 1, 0));
            Due.is("before(0, " + (ring - 1) + ")", Some.number(x.before(0, ring - 1)),
                    ring == 2 ? 0 : 1);
        }
    }

    /** Two ways from 0 to 3 make no ring. */
    private static void promise9TwoWaysAreNoRing() {
        Due.sentence("Promise 9", "the other one would come before itself (and nothing else)");
        RoundPlans x = Some.stops(4, 0, 100000);
        x.vehicle(0, 0, Some.DAY, 1);
        Due.yes("before(3, 1)", x.before(3, 1));
        Due.yes("before(3, 2)", x.before(3, 2));
        Due.yes("before(1, 0)", x.before(1, 0));
        Due.yes("before(2, 0)", x.before(2, 0));
        Due.no("before(0, 3)", x.before(0, 3));
        Due.yes("before(2, 1)", x.before(2, 1));
        Due.no("before(1, 2)", x.before(1, 2));
        x.run();
        Due.same("as it was told", Some.round(x, 0), "3 2 1 0");
    }

    /** If the refused before(1, 0) were kept, 1 would lead to 2 by way of 0. */
    private static void promise9ARefusedOneIsNotKept() {
        Due.sentence("Promise 9 and Terms", "A call that is refused changes nothing");
        RoundPlans x = Some.stops(3, 0, 100000);
        x.vehicle(0, 0, Some.DAY, 1);
        x.before(0, 1);
        x.before(0, 2);
        Due.no("before(1, 0)", x.before(1, 0));
        Due.yes("before(2, 1)", x.before(2, 1));
        Due.is("run()", x.run(), 0);
        Due.same("as it was told", Some.round(x, 0), "0 2 1");
    }

    public static void main(String[] args) {
        promise1NoStops();
        promise1NoVehicles();
        promise1NothingWasFound();
        promise2OfKilograms();
        promise2AnswersItsNumber();
        promise2NoneWhenThereAreSeven();
        promise3HoursOfTheDay();
        promise3FirstAtMostTheLast();
        promise3Service();
        promise3FalseWhenThereIsNoSuchStop();
        promise4Cents();
        promise4NoSuchStop();
        promise5Most();
        promise5LeavingAndBack();
        promise5LeavingAtMostBack();
        promise5Rate();
        promise5AnswersItsNumber();
        promise5NoneWhenThereAreThree();
        promise6TwoDifferentPlaces();
        promise6Places();
        promise6Seconds();
        promise7FixedToAVehicle();
        promise7ToNone();
        promise7FalseWhenThereAreNoneSuch();
        promise8FromNowOnOrNot();
        promise8EachPair();
        promise8FalseWhenThereAreNoneSuch();
        promise8FalseWhenBothAreTheSame();
        promise9FalseWhenThereAreNoneSuch();
        promise9FalseWhenBothAreTheSame();
        promise9FalseWhenItDoesAlready();
        promise9FalseWhenItWouldComeBeforeItself();
        promise9TwoWaysAreNoRing();
        promise9ARefusedOneIsNotKept();
        Due.end();
    }
}
