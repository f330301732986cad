import java.util.ArrayList;
import java.util.List;
import java.util.function.Supplier;

/**
 * Terms: "A call that is refused changes nothing." Each call that promises 2 to
 * 9 refuse is tested for what it answers, and for what it leaves as it was: the
 * portraits of an object with and without the call are the same. So are the
 * questions of promises 12 to 16 about what there is not.
 */
public final class RefusedTest {
    /** Hours, load and so on that no scene has: what is wrongly kept of them shows. */
    private static final int LONG_SERVICE = 9000;

    private final String scene;
    private final Supplier<RoundPlans> made;
    private final List<String> due;
    private final int stops;
    private final int vehicles;

    private RefusedTest(String scene, int stops, int vehicles, Supplier<RoundPlans> made) {
        this.scene = scene;
        this.made = made;
        this.stops = stops;
        this.vehicles = vehicles;
        due = Portrait.of(made);
    }

    private void refused(String call, long answer, Some.Call refused) {
        Due.is(scene + call, refused.applyAsLong(made.get()), answer);
        List<String> seen = Portrait.of(() -> {
            RoundPlans x = made.get();
            refused.applyAsLong(x);
            return x;
        });
        Due.is(scene + call + ", lines", seen.size(), due.size());
        for (int k = 0; k < due.size() && k < seen.size(); k++) {
            Due.same(scene + call + " leaves", seen.get(k), due.get(k));
        }
    }

    /** Numbers of no stop, or no vehicle, when there are so many: the next one, and wild ones. */
    private static List<Integer> nobody(int count) {
        List<Integer> numbers = new ArrayList<>();
        numbers.add(count);
        for (int number : Some.NOBODY) {
            if (number != count) {
                numbers.add(number);
            }
        }
        return numbers;
    }

    private void stop(int kilograms) {
        refused("stop(" + kilograms + ")", -1, x -> x.stop(kilograms));
    }

    private void promise2() {
        Due.sentence("Promise 2", "NONE .. or these are not such");
        int[] wrong = {Some.MIN, -1, 100001, Some.MAX};
        for (int kilograms : wrong) {
            stop(kilograms);
        }
        if (stops == 7) {
            Due.sentence("Promise 2", "NONE when there are 7");
            stop(0);
            stop(100000);
        }
    }

    private void hours(int stop, int first, int last, int service) {
        refused("hours(" + stop + ", " + first + ", " + last + ", " + service + ")", 0,
                x -> Some.number(x.hours(stop, first, last, service)));
    }

    private void promise3() {
        Due.sentence("Promise 3", "false when these are not such (A stop's)");
        for (int stop : nobody(stops)) {
            hours(stop, 11, 12, LONG_SERVICE);
        }
        for (int stop = 0; stop < stops; stop += 3) {
            Due.sentence("Promise 3", "false when these are not such (hours, 0 .. 86399)");
            hours(stop, -1, 12, LONG_SERVICE);
            hours(stop, Some.MIN, 12, LONG_SERVICE);
            hours(stop, 11, 86400, LONG_SERVICE);
            hours(stop, 11, Some.MAX, LONG_SERVICE);
            hours(stop, 86400, 86400, LONG_SERVICE);
            hours(stop, -2, -1, LONG_SERVICE);
            Due.sentence("Promise 3", "false when these are not such (the first at most the last)");
            hours(stop, 12, 11, LONG_SERVICE);
            hours(stop, 86399, 0, LONG_SERVICE);
            Due.sentence("Promise 3", "false when these are not such (service, 0 .. 10000)");
            hours(stop, 11, 12, -1);
            hours(stop, 11, 12, 10001);
            hours(stop, 11, 12, Some.MIN);
            hours(stop, 11, 12, Some.MAX);
        }
    }

    private void penalty(int stop, long cents) {
        refused("penalty(" + stop + ", " + cents + ")", 0,
                x -> Some.number(x.penalty(stop, cents)));
    }

    private void promise4() {
        Due.sentence("Promise 4", "true, or false (A stop's)");
        for (int stop : nobody(stops)) {
            penalty(stop, 123456789);
        }
        Due.sentence("Promise 4", "true, or false (0 .. 1000000000)");
        long[] wrong = {Long.MIN_VALUE, -(1L << 32) + 5, -1, 1000000001L, (1L << 32) + 5,
            Long.MAX_VALUE};
        for (long cents : wrong) {
            for (int stop = 0; stop < stops; stop += 6) {
                penalty(stop, cents);
            }
        }
    }

    private void vehicle(int most, int leaving, int back, int rate) {
        refused("vehicle(" + most + ", " + leaving + ", " + back + ", " + rate + ")", -1,
                x -> x.vehicle(most, leaving, back, rate));
    }

    private void promise5() {
        Due.sentence("Promise 5", "NONE .. or these are not such");
        int[][] wrong = {{-1, 0, 5, 1}, {Some.MIN, 0, 5, 1}, {1000001, 0, 5, 1}, {Some.MAX, 0, 5, 1},
            {5, -1, 5, 1}, {5, Some.MIN, 5, 1}, {5, 0, 86400, 1}, {5, 0, Some.MAX, 1},
            {5, 86400, 86400, 1}, {5, -2, -1, 1}, {5, 6, 5, 1}, {5, 86399, 0, 1}, {5, 0, 5, -1},
            {5, 0, 5, 1001}, {5, 0, 5, Some.MIN}, {5, 0, 5, Some.MAX}};
        for (int[] w : wrong) {
            vehicle(w[0], w[1], w[2], w[3]);
        }
        if (vehicles == 3) {
            Due.sentence("Promise 5", "NONE when there are 3");
            vehicle(0, 0, 0, 0);
            vehicle(1000000, 0, 86399, 0);
            vehicle(1000000, 86399, 86399, 1000);
        }
    }

    private void way(int from, int to, int seconds) {
        refused("way(" + from + ", " + to + ", " + seconds + ")", 0,
                x -> Some.number(x.way(from, to, seconds)));
    }

    private void promise6() {
        Due.sentence("Promise 6", "true, or false (two different places)");
        for (int place = 0; place <= 7; place++) {
            way(place, place, 4321);
        }
        Due.sentence("Promise 6", "true, or false (0 .. 7)");
        for (int place : nobody(8)) {
            if (place != 7) {
                way(place, 1, 4321);
                way(1, place, 4321);
            }
        }
        Due.sentence("Promise 6", "true, or false (0 .. 50000 seconds)");
        int[] wrong = {Some.MIN, -1, 50001, Some.MAX};
        for (int seconds : wrong) {
            way(7, 0, seconds);
            way(6, 7, seconds);
            way(1, 0, seconds);
        }
    }

    private void fixed(int stop, int vehicle) {
        refused("fixed(" + stop + ", " + vehicle + ")", 0,
                x -> Some.number(x.fixed(stop, vehicle)));
    }

    private void promise7() {
        Due.sentence("Promise 7", "false when there are none such (A stop)");
        for (int stop : nobody(stops)) {
            fixed(stop, stop % 2 == 0 ? vehicles - 1 : -1);
        }
        Due.sentence("Promise 7", "false when there are none such (a vehicle)");
        for (int vehicle : nobody(vehicles)) {
            if (vehicle != -1) {
                fixed(0, vehicle);
                fixed(3, vehicle);
            }
        }
    }

    private void apart(int a, int b, boolean is) {
        refused("apart(" + a + ", " + b + ", " + is + ")", 0, x -> Some.number(x.apart(a, b, is)));
    }

    private void promise8() {
        Due.sentence("Promise 8", "false when there are none such");
        for (int stop : nobody(stops)) {
            apart(stop, 1, true);
            apart(1, stop, false);
        }
        Due.sentence("Promise 8", "false when .. both are the same");
        for (int stop = 0; stop <= stops; stop++) {
            apart(stop, stop, true);
            apart(stop, stop, false);
        }
    }

    private void before(int a, int b) {
        refused("before(" + a + ", " + b + ")", 0, x -> Some.number(x.before(a, b)));
    }

    private void promise9() {
        Due.sentence("Promise 9", "false when there are none such");
        for (int stop : nobody(stops)) {
            before(stop, 1);
            before(1, stop);
        }
        Due.sentence("Promise 9", "false when .. both are the same");
        for (int stop = 0; stop <= stops; stop++) {
            before(stop, stop);
        }
        if (stops == 7) {
            Due.sentence("Promise 9", "false when .. it does already");
            before(4, 1);
            before(1, 5);
            Due.sentence("Promise 9", "false when .. the other one would come before itself");
            before(1, 4);
            before(5, 1);
            Due.sentence("Promise 9", "by what was told, step by step");
            before(5, 4);
        }
    }

    /** Asked about each number of nobody; answers NONE if all of them did. */
    private static long about(List<Integer> numbers, RoundPlans x, Question question) {
        for (int number : numbers) {
            long answer = question.ask(x, number);
            if (answer != -1) {
                return answer;
            }
        }
        return -1;
    }

    private interface Question {
        long ask(RoundPlans x, int number);
    }

    private void promises12To16() {
        List<Integer> noStops = nobody(stops);
        List<Integer> noVehicles = nobody(vehicles);
        Due.sentence("Promise 12", "NONE when there was no such stop");
        refused("vehicleOf(..)", -1, x -> about(noStops, x, (y, n) -> y.vehicleOf(n)));
        Due.sentence("Promise 13", "NONE when there is none such");
        refused("at(.., 0)", -1, x -> about(noVehicles, x, (y, n) -> y.at(n, 0)));
        refused("at(0, ..)", -1, x -> about(nobody(7), x, (y, n) -> y.at(0, n)));
        Due.sentence("Promise 14", "NONE when there is none such");
        refused("begun(..)", -1, x -> about(noStops, x, (y, n) -> y.begun(n)));
        Due.sentence("Promise 15", "NONE when it has no round");
        refused("back(..)", -1, x -> about(noVehicles, x, (y, n) -> y.back(n)));
        Due.sentence("Promise 16", "NONE when there was no such vehicle");
        refused("saved(..)", -1, x -> about(noVehicles, x, (y, n) -> y.saved(n)));
    }

    /** All stops and vehicles there may be, each number another one. */
    private static RoundPlans full() {
        RoundPlans x = new RoundPlans();
        int all = 0;
        for (int stop = 0; stop < 7; stop++) {
            x.stop(10 + stop);
            x.hours(stop, 900 + 100 * stop, 9000 + 500 * stop, 20 + stop);
            x.penalty(stop, 4000 + 10 * stop);
            all += 10 + stop;
        }
        // One vehicle just carries all stops, one just does not.
        x.vehicle(all, 50, 80000, 1);
        x.vehicle(all - 1, 0, 70000, 2);
        x.vehicle(33, 0, 60000, 3);
        for (int from = 0; from <= 7; from++) {
            for (int to = 0; to <= 7; to++) {
                x.way(from, to, 100 + 37 * from + 11 * to);
            }
        }
        x.fixed(0, 1);
        x.fixed(3, 0);
        x.fixed(6, 2);
        x.apart(0, 1, true);
        x.apart(5, 6, true);
        x.before(4, 1);
        x.before(1, 5);
        return x;
    }

    /** A plan was found, and then other things were told. */
    private static RoundPlans found() {
        RoundPlans x = full();
        x.run();
        x.way(7, 3, 77);
        x.fixed(0, -1);
        x.hours(2, 0, 2000, 5);
        return x;
    }

    private static RoundPlans few() {
        RoundPlans x = new RoundPlans();
        x.stop(3);
        x.stop(4);
        x.vehicle(7, 10, 50000, 4);
        x.hours(0, 200, 400, 9);
        x.penalty(0, 3000);
        x.penalty(1, 2000);
        x.before(1, 0);
        x.run();
        return x;
    }

    private void all() {
        promise2();
        promise3();
        promise4();
        promise5();
        promise6();
        promise7();
        promise8();
        promise9();
        promises12To16();
    }

    public static void main(String[] args) {
        new RefusedTest("new: ", 0, 0, RoundPlans::new).all();
        new RefusedTest("few: ", 2, 1, RefusedTest::few).all();
        new RefusedTest("found: ", 7, 3, RefusedTest::found).all();
        Due.end();
    }
}
