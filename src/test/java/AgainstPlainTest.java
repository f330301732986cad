/**
 * Promises 1 to 16: long runs of calls, each answer held against the plain
 * program's. The numbers come from a fixed row, so every run of it is the same.
 */
public final class AgainstPlainTest {
    private static final int[] WILD = {Integer.MIN_VALUE, -2, -1, 0, 1, 3, 7, 8, 100, 1000, 1001,
        10000, 10001, 50000, 50001, 86399, 86400, 100000, 100001, 1000000, 1000001,
        Integer.MAX_VALUE};
    private static final long[] WILD_CENTS = {Long.MIN_VALUE, -1, 0, 1, 1000000000L, 1000000001L,
        Long.MAX_VALUE, 1L << 32};

    private long seed;
    private final String name;
    private final RoundPlans real = new RoundPlans();
    private final PlainPlans plain = new PlainPlans();
    /** How far apart the numbers lie: the smaller, the more plans are equal. */
    private final int grain;
    /** The dearer a skipped stop, the fuller the vehicles. */
    private final int dear;
    private int calls = 0;

    private AgainstPlainTest(int number) {
        seed = number * 7919L + 17;
        name = "run " + number + ", call ";
        grain = number % 3 == 0 ? 1 : number % 3 == 1 ? 10 : 97;
        dear = 1 + number % 5 * 4;
    }

    private int below(int bound) {
        seed = seed * 6364136223846793005L + 1442695040888963407L;
        return (int) ((seed >>> 33) % bound);
    }

    private int some(int bound) {
        return below(40) == 0 ? WILD[below(WILD.length)] : below(bound);
    }

    private int stop() {
        return some(7);
    }

    /** Each answer is one call: an object is used for 512 calls at most. */
    private void due(String call, long got, long want) {
        calls++;
        Due.is(name + calls + ": " + call, got, want);
    }

    private static long number(boolean is) {
        return is ? 1 : 0;
    }

    private void addStop() {
        int kilograms = some(5);
        due("stop(" + kilograms + ")", real.stop(kilograms), plain.stop(kilograms));
    }

    private void addVehicle() {
        int most = some(16);
        int leaving = some(3) * grain;
        int back = leaving + some(60) * grain;
        int rate = some(4);
        due("vehicle(" + most + ", " + leaving + ", " + back + ", " + rate + ")",
                real.vehicle(most, leaving, back, rate), plain.vehicle(most, leaving, back, rate));
    }

    private void setHours() {
        int stop = stop();
        int first = some(20) * grain;
        int last = below(3) == 0 ? 86399 : first + some(25) * grain;
        int service = some(3) * grain;
        due("hours(" + stop + ", " + first + ", " + last + ", " + service + ")",
                number(real.hours(stop, first, last, service)),
                number(plain.hours(stop, first, last, service)));
    }

    private void setPenalty() {
        int stop = stop();
        long cents = below(30) == 0 ? WILD_CENTS[below(WILD_CENTS.length)]
                : (long) below(50) * grain * dear;
        due("penalty(" + stop + ", " + cents + ")",
                number(real.penalty(stop, cents)), number(plain.penalty(stop, cents)));
    }

    private void setWay() {
        int from = some(8);
        int to = some(8);
        int seconds = some(12) * grain;
        due("way(" + from + ", " + to + ", " + seconds + ")",
                number(real.way(from, to, seconds)), number(plain.way(from, to, seconds)));
    }

    private void setTie() {
        int a = stop();
        int b = stop();
        int kind = below(4);
        if (kind == 0) {
            int vehicle = some(4) - 1;
            due("fixed(" + a + ", " + vehicle + ")",
                    number(real.fixed(a, vehicle)), number(plain.fixed(a, vehicle)));
        } else if (kind == 1) {
            due("before(" + a + ", " + b + ")", number(real.before(a, b)), number(plain.before(a, b)));
        } else {
            boolean is = below(3) == 0;
            due("apart(" + a + ", " + b + ", " + is + ")",
                    number(real.apart(a, b, is)), number(plain.apart(a, b, is)));
        }
    }

    private void lookAtAll() {
        due("cost()", real.cost(), plain.cost());
        for (int stop = -1; stop <= 7; stop++) {
            due("vehicleOf(" + stop + ")", real.vehicleOf(stop), plain.vehicleOf(stop));
            due("begun(" + stop + ")", real.begun(stop), plain.begun(stop));
        }
        for (int vehicle = -1; vehicle <= 3; vehicle++) {
            due("back(" + vehicle + ")", real.back(vehicle), plain.back(vehicle));
            due("saved(" + vehicle + ")", real.saved(vehicle), plain.saved(vehicle));
            for (int k = 0; k <= 7; k++) {
                due("at(" + vehicle + ", " + k + ")", real.at(vehicle, k), plain.at(vehicle, k));
            }
        }
    }

    private void lookAtWild() {
        int wild = WILD[below(WILD.length)];
        int other = WILD[below(WILD.length)];
        due("vehicleOf(" + wild + ")", real.vehicleOf(wild), plain.vehicleOf(wild));
        due("begun(" + wild + ")", real.begun(wild), plain.begun(wild));
        due("back(" + wild + ")", real.back(wild), plain.back(wild));
        due("saved(" + wild + ")", real.saved(wild), plain.saved(wild));
        due("at(" + wild + ", " + other + ")", real.at(wild, other), plain.at(wild, other));
        due("cost()", real.cost(), plain.cost());
    }

    private void call() {
        int kind = below(100);
        if (kind < 8) {
            addStop();
        } else if (kind < 12) {
            addVehicle();
        } else if (kind < 30) {
            setHours();
        } else if (kind < 45) {
            setPenalty();
        } else if (kind < 82) {
            setWay();
        } else if (kind < 92) {
            setTie();
        } else if (kind < 96) {
            lookAtWild();
        } else {
            due("run()", real.run(), plain.run());
            lookAtAll();
        }
    }

    /** Some start with ways of their own, with stops or vehicles, some with nothing. */
    private void start(int number) {
        for (int k = 0; k < 80 && number % 4 != 0; k++) {
            setWay();
        }
        for (int k = 0; k < 7 && number % 2 == 0; k++) {
            addStop();
            setHours();
            setPenalty();
        }
        for (int k = 0; k < number % 4; k++) {
            addVehicle();
        }
    }

    public static void main(String[] args) {
        for (int number = 0; number < 300 && Due.wrong() == 0; number++) {
            AgainstPlainTest test = new AgainstPlainTest(number);
            test.start(number);
            // The dearest step is a run() with a look at all, some 70 calls.
            while (test.calls < 430 && Due.wrong() == 0) {
                test.call();
            }
            Due.yes(test.name + "512 calls at most", test.calls <= 512);
        }
        Due.end();
    }
}
