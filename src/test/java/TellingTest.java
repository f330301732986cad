/** Promises 1 to 9: what each telling call takes, refuses and changes. */
public final class TellingTest {
    private static final int MIN = Integer.MIN_VALUE;
    private static final int MAX = Integer.MAX_VALUE;

    /** So many stops, each with a penalty that no round is dearer than. */
    private static RoundPlans withStops(int count, int kilograms) {
        RoundPlans plans = new RoundPlans();
        for (int stop = 0; stop < count; stop++) {
            plans.stop(kilograms);
            plans.penalty(stop, 1000000000L);
        }
        return plans;
    }

    private static void promise1NewObject() {
        RoundPlans x = new RoundPlans();
        Due.is("new: cost()", x.cost(), -1);
        for (int n = -1; n <= 8; n++) {
            Due.is("new: vehicleOf(" + n + ")", x.vehicleOf(n), -1);
            Due.is("new: at(" + n + ", 0)", x.at(n, 0), -1);
            Due.is("new: begun(" + n + ")", x.begun(n), -1);
            Due.is("new: back(" + n + ")", x.back(n), -1);
            Due.is("new: saved(" + n + ")", x.saved(n), -1);
            Due.no("new: hours(" + n + ", ..)", x.hours(n, 0, 1, 0));
            Due.no("new: penalty(" + n + ", 1)", x.penalty(n, 1));
            Due.no("new: fixed(" + n + ", NONE)", x.fixed(n, -1));
        }
        Due.is("new: run()", x.run(), 0);
        Due.is("new: cost() behind run()", x.cost(), 0);
        RoundPlans other = withStops(2, 0);
        other.run();
        Due.is("another object has its own stops", x.vehicleOf(0), -1);
    }

    private static void promise2Stop() {
        RoundPlans x = new RoundPlans();
        int[] refused = {MIN, -1, 100001, MAX};
        for (int kilograms : refused) {
            Due.is("stop(" + kilograms + ")", x.stop(kilograms), -1);
        }
        Due.is("stop(0)", x.stop(0), 0);
        Due.is("stop(100000)", x.stop(100000), 1);
        for (int number = 2; number < 7; number++) {
            Due.is("stop(5)", x.stop(5), number);
        }
        Due.is("the eighth stop", x.stop(5), -1);
        Due.is("the eighth stop, once more", x.stop(0), -1);
        Due.is("7 stops skipped", x.run(), 7);
        Due.is("7 stops without a penalty", x.cost(), 0);
    }

    private static void promise2Kilograms() {
        RoundPlans x = withStops(2, 50000);
        x.vehicle(99999, 0, 86399, 1);
        Due.is("a kilogram too many", x.run(), 1);
        RoundPlans y = withStops(2, 50000);
        y.vehicle(100000, 0, 86399, 1);
        Due.is("just the kilograms", y.run(), 0);
        RoundPlans z = withStops(7, 100000);
        z.vehicle(700000, 0, 86399, 1);
        Due.is("seven of the heaviest", z.run(), 0);
    }

    private static void promise3Hours() {
        RoundPlans x = withStops(1, 0);
        x.vehicle(0, 0, 86399, 1);
        Due.yes("hours(0, 300, 400, 7)", x.hours(0, 300, 400, 7));
        int[][] refused = {{1, 0, 5, 0}, {-1, 0, 5, 0}, {7, 0, 5, 0}, {MAX, 0, 5, 0}, {MIN, 0, 5, 0},
            {0, -1, 5, 0}, {0, MIN, 5, 0}, {0, 6, 5, 0}, {0, 0, 86400, 0}, {0, 86400, 86400, 0},
            {0, 0, MAX, 0}, {0, 0, -1, 0}, {0, 0, 5, -1}, {0, 0, 5, 10001}, {0, 0, 5, MIN},
            {0, 0, 5, MAX}};
        for (int[] h : refused) {
            Due.no("hours(" + h[0] + ", " + h[1] + ", " + h[2] + ", " + h[3] + ")",
                    x.hours(h[0], h[1], h[2], h[3]));
        }
        x.run();
        Due.is("waits for the first second", x.begun(0), 300);
        Due.is("goes on behind the service", x.back(0), 407);
        Due.yes("all day, longest service", x.hours(0, 0, 86399, 10000));
        x.run();
        Due.is("begins at once", x.begun(0), 100);
        Due.is("back behind 10000", x.back(0), 10200);
        Due.yes("one second only", x.hours(0, 100, 100, 0));
        Due.is("there at the last second", x.run(), 0);
        Due.yes("one second sooner", x.hours(0, 99, 99, 0));
        Due.is("there behind the last second", x.run(), 1);
        Due.yes("the day's last second", x.hours(0, 86399, 86399, 0));
        Due.is("not back by then", x.run(), 1);
        x.way(0, 7, 0);
        Due.is("back by then", x.run(), 0);
        Due.is("back at the day's last second", x.back(0), 86399);
    }

    private static void promise3FirstHours() {
        RoundPlans x = withStops(1, 0);
        x.vehicle(0, 86398, 86399, 1);
        x.way(7, 0, 1);
        x.way(0, 7, 0);
        Due.is("hours are 0 .. 86399 at first", x.run(), 0);
        Due.is("begun at the last second", x.begun(0), 86399);
    }

    private static void promise4Penalty() {
        RoundPlans x = new RoundPlans();
        x.stop(0);
        x.run();
        Due.is("0 at first", x.cost(), 0);
        Due.yes("penalty(0, 1000000000)", x.penalty(0, 1000000000L));
        long[] cents = {Long.MIN_VALUE, -1, 1000000001L, 1L << 32, Long.MAX_VALUE};
        for (long c : cents) {
            Due.no("penalty(0, " + c + ")", x.penalty(0, c));
        }
        int[] stops = {MIN, -1, 1, 7, MAX};
        for (int stop : stops) {
            Due.no("penalty(" + stop + ", 5)", x.penalty(stop, 5));
        }
        x.run();
        Due.is("the highest penalty", x.cost(), 1000000000L);
        Due.yes("penalty(0, 0)", x.penalty(0, 0));
        x.run();
        Due.is("no penalty again", x.cost(), 0);
        RoundPlans y = withStops(7, 0);
        Due.is("all skipped", y.run(), 7);
        Due.is("more than an int holds", y.cost(), 7000000000L);
    }

    private static void promise5Vehicle() {
        RoundPlans x = withStops(1, 0);
        int[][] refused = {{-1, 0, 5, 1}, {MIN, 0, 5, 1}, {1000001, 0, 5, 1}, {MAX, 0, 5, 1},
            {5, -1, 5, 1}, {5, MIN, 5, 1}, {5, 6, 5, 1}, {5, 0, 86400, 1}, {5, 86400, 86400, 1},
            {5, 0, MAX, 1}, {5, 0, -1, 1}, {5, 0, 5, -1}, {5, 0, 5, 1001}, {5, 0, 5, MIN},
            {5, 0, 5, MAX}};
        for (int[] v : refused) {
            Due.is("vehicle(" + v[0] + ", " + v[1] + ", " + v[2] + ", " + v[3] + ")",
                    x.vehicle(v[0], v[1], v[2], v[3]), -1);
        }
        x.run();
        Due.is("no vehicle yet", x.saved(0), -1);
        Due.is("vehicle(0, 0, 0, 0)", x.vehicle(0, 0, 0, 0), 0);
        Due.is("vehicle(1000000, 86399, 86399, 1000)", x.vehicle(1000000, 86399, 86399, 1000), 1);
        Due.is("vehicle(0, 0, 86399, 1000)", x.vehicle(0, 0, 86399, 1000), 2);
        Due.is("the fourth vehicle", x.vehicle(0, 0, 86399, 0), -1);
        x.run();
        Due.is("only vehicle 2 is back in time", x.vehicleOf(0), 2);
        Due.is("1000 cents a second", x.cost(), 200000);
    }

    private static void promise5Back() {
        RoundPlans x = withStops(1, 0);
        x.vehicle(0, 50, 249, 1);
        Due.is("a second too late", x.run(), 1);
        x.vehicle(0, 50, 250, 1);
        Due.is("just in time", x.run(), 0);
        Due.is("leaves at its second", x.begun(0), 150);
        Due.is("back at its second", x.back(1), 250);
    }

    private static void promise6Way() {
        RoundPlans x = new RoundPlans();
        Due.yes("way(7, 0, 50000) before there are stops", x.way(7, 0, 50000));
        Due.yes("way(0, 7, 0)", x.way(0, 7, 0));
        int[][] refused = {{-1, 0, 5}, {8, 0, 5}, {MIN, 0, 5}, {MAX, 0, 5}, {7, -1, 5}, {7, 8, 5},
            {7, MIN, 5}, {7, MAX, 5}, {0, 0, 5}, {7, 7, 5}, {7, 0, -1}, {7, 0, 50001},
            {7, 0, MIN}, {7, 0, MAX}};
        for (int[] w : refused) {
            Due.no("way(" + w[0] + ", " + w[1] + ", " + w[2] + ")", x.way(w[0], w[1], w[2]));
        }
        x.stop(0);
        x.penalty(0, 1000000000L);
        x.vehicle(0, 0, 86399, 1);
        x.run();
        Due.is("the way there", x.begun(0), 50000);
        Due.is("the way back", x.back(0), 50000);
        x.stop(0);
        x.penalty(1, 1000000000L);
        x.way(1, 0, 3);
        x.run();
        Due.is("the other way round: first", x.at(0, 0), 1);
        Due.is("the other way round: second", x.at(0, 1), 0);
        Due.is("100 and 3", x.back(0), 103);
    }

    private static void promise7Fixed() {
        RoundPlans x = withStops(2, 0);
        Due.no("no vehicle to be fixed to", x.fixed(0, 0));
        x.vehicle(0, 0, 86399, 1);
        x.vehicle(0, 0, 86399, 2);
        Due.yes("fixed(0, 1)", x.fixed(0, 1));
        int[][] refused = {{0, 2}, {0, 3}, {0, -2}, {0, MAX}, {0, MIN}, {2, 0}, {-1, 0}, {7, 0},
            {2, -1}, {MAX, 0}, {MIN, 0}};
        for (int[] f : refused) {
            Due.no("fixed(" + f[0] + ", " + f[1] + ")", x.fixed(f[0], f[1]));
        }
        x.run();
        Due.is("goes with its vehicle", x.vehicleOf(0), 1);
        Due.is("300 of vehicle 0 would cost less than both", x.cost(), 600);
        Due.is("the other one is free", x.vehicleOf(1), 0);
        Due.yes("fixed(0, NONE)", x.fixed(0, -1));
        x.run();
        Due.is("is free again", x.vehicleOf(0), 0);
        Due.is("both with the cheaper one", x.cost(), 300);
        x.fixed(0, 1);
        x.penalty(0, 10);
        Due.is("also a fixed one may be skipped", x.run(), 1);
    }

    private static void promise8Apart() {
        RoundPlans x = withStops(3, 0);
        x.vehicle(0, 0, 86399, 1);
        Due.yes("apart(0, 2, true)", x.apart(0, 2, true));
        int[][] refused = {{0, 0}, {2, 2}, {0, 3}, {3, 0}, {-1, 0}, {0, -1}, {7, 0}, {0, 7},
            {MIN, 0}, {0, MAX}};
        for (int[] p : refused) {
            Due.no("apart(" + p[0] + ", " + p[1] + ", true)", x.apart(p[0], p[1], true));
            Due.no("apart(" + p[0] + ", " + p[1] + ", false)", x.apart(p[0], p[1], false));
        }
        Due.is("one of both is skipped", x.run(), 1);
        Due.is("the one behind", x.vehicleOf(2), 3);
        x.vehicle(0, 0, 86399, 9);
        Due.is("each on its own vehicle", x.run(), 0);
        Due.is("stop 0", x.vehicleOf(0), 0);
        Due.is("stop 2", x.vehicleOf(2), 1);
        Due.yes("apart once more", x.apart(0, 2, true));
        Due.yes("apart(2, 0, false)", x.apart(2, 0, false));
        x.run();
        Due.is("together again", x.cost(), 400);
        Due.yes("not apart anyway", x.apart(0, 1, false));
    }

    private static void promise9Before() {
        RoundPlans x = withStops(4, 0);
        x.vehicle(0, 0, 86399, 1);
        int[][] refused = {{0, 0}, {0, 4}, {4, 0}, {-1, 0}, {0, -1}, {7, 0}, {MIN, 0}, {0, MAX}};
        for (int[] p : refused) {
            Due.no("before(" + p[0] + ", " + p[1] + ")", x.before(p[0], p[1]));
        }
        Due.yes("before(3, 2)", x.before(3, 2));
        Due.no("before(3, 2) again", x.before(3, 2));
        Due.no("before(2, 3)", x.before(2, 3));
        Due.yes("before(1, 0)", x.before(1, 0));
        Due.yes("before(2, 1) joins both", x.before(2, 1));
        Due.no("before(0, 3) by three steps", x.before(0, 3));
        Due.no("before(1, 3) by two steps", x.before(1, 3));
        Due.no("before(0, 2) by two steps", x.before(0, 2));
        x.run();
        for (int k = 0; k < 4; k++) {
            Due.is("3 2 1 0: at(0, " + k + ")", x.at(0, k), 3 - k);
        }
        Due.yes("before(3, 0), told by steps alone so far", x.before(3, 0));
        Due.no("before(3, 0) again", x.before(3, 0));
        Due.no("before(0, 3) still", x.before(0, 3));
    }

    /** Two chains of three are joined: the steps behind and ahead of the joint count as well. */
    private static void promise9LongChains() {
        RoundPlans x = withStops(7, 0);
        int[][] told = {{0, 1}, {1, 2}, {3, 4}, {4, 5}, {2, 3}};
        for (int[] p : told) {
            Due.yes("before(" + p[0] + ", " + p[1] + ")", x.before(p[0], p[1]));
        }
        for (int a = 0; a < 6; a++) {
            for (int b = 0; b < a; b++) {
                Due.no("before(" + a + ", " + b + ") against the chain", x.before(a, b));
            }
        }
        Due.yes("before(5, 6)", x.before(5, 6));
        Due.no("before(6, 0) against six steps", x.before(6, 0));
        Due.yes("before(0, 6)", x.before(0, 6));
    }

    /** Nothing takes any time, so only before() tells the order. */
    private static void promise9AtSecondZero() {
        RoundPlans x = withStops(3, 0);
        x.vehicle(0, 0, 0, 1);
        int[] places = {0, 1, 2, 7};
        for (int from : places) {
            for (int to : places) {
                x.way(from, to, 0);
            }
        }
        x.before(2, 1);
        x.before(1, 0);
        Due.is("all at second 0", x.run(), 0);
        for (int k = 0; k < 3; k++) {
            Due.is("2 1 0: at(0, " + k + ")", x.at(0, k), 2 - k);
        }
        Due.is("back at second 0", x.back(0), 0);
    }

    /** 2 before 1 before 0, but with 1 skipped 0 may stand first: it was not told of these two. */
    private static void promise9ToldOfTheseTwo() {
        RoundPlans x = withStops(3, 0);
        x.vehicle(0, 0, 86399, 1);
        x.before(2, 1);
        x.before(1, 0);
        x.penalty(1, 0);
        Due.is("1 is skipped", x.run(), 1);
        Due.is("0 stands first", x.at(0, 0), 0);
        x.before(2, 0);
        x.run();
        Due.is("2 stands first", x.at(0, 0), 2);
        Due.is("then 0", x.at(0, 1), 0);
    }

    /** Before binds two stops of one vehicle alone. */
    private static void promise9OnTheSameVehicle() {
        RoundPlans x = withStops(2, 1);
        x.vehicle(1, 0, 86399, 1);
        x.vehicle(1, 1000, 86399, 1);
        x.before(1, 0);
        Due.is("one each", x.run(), 0);
        Due.is("0 with the sooner one", x.vehicleOf(0), 0);
        Due.is("1 begun later", x.begun(1), 1100);
    }

    public static void main(String[] args) {
        promise1NewObject();
        promise2Stop();
        promise2Kilograms();
        promise3Hours();
        promise3FirstHours();
        promise4Penalty();
        promise5Vehicle();
        promise5Back();
        promise6Way();
        promise7Fixed();
        promise8Apart();
        promise9Before();
        promise9LongChains();
        promise9AtSecondZero();
        promise9ToldOfTheseTwo();
        promise9OnTheSameVehicle();
        Due.end();
    }
}
