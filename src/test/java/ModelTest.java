import java.math.BigInteger;
import java.util.ArrayList;
import java.util.List;
import java.util.Random;
import java.util.TreeMap;

/** Runs of calls from fixed seeds, against a plain model that works everything out anew at each call. */
public final class ModelTest {
    private static final int RUNS = 3_000;
    private static final int CALLS = 512;
    private static final String[] CALLED = {"vehicle", "limits", "place", "item", "list", "stock", "put", "use",
        "replace", "swap", "ends", "battery", "seal", "check", "now", "ready", "missing", "share", "axle", "row",
        "has", "stocked"};
    // Calls that change a load come oftest, so that runs reach full cupboards and axles at their limits.
    private static final int[] OFTEN = {4, 2, 2, 3, 8, 6, 16, 6, 5, 10, 2, 2, 2, 8, 2, 10, 5, 4, 10, 6, 4, 2};

    public static void main(String[] args) {
        Due due = new Due();
        TreeMap<String, Integer> seen = new TreeMap<>();
        for (int run = 0; run < RUNS; run++) {
            oneRun(due, run, seen);
        }
        everythingWasSeen(due, seen);
        due.end();
    }

    private static void oneRun(Due due, int seed, TreeMap<String, Integer> seen) {
        Calls calls = new Calls(new Random(seed));
        LoadChecks x = new LoadChecks();
        Model model = new Model();
        for (int i = 0; i < CALLS; i++) {
            int call = i < 3 ? 0 : calls.pick();
            int[] a = calls.arguments(call);
            String want = answer(() -> model.call(call, a));
            String got = answer(() -> real(x, call, a));
            String text = CALLED[call] + java.util.Arrays.toString(a);
            due.holds("run " + seed + ", call " + i + ": " + text + " answered " + got + ", due is " + want,
                    got.equals(want));
            String kind = want.startsWith("throws") ? want : call == 15 ? want : "answers";
            seen.merge(CALLED[call] + " " + kind, 1, Integer::sum);
            if (!got.equals(want)) {
                return;
            }
        }
    }

    /** A run of draws that never reaches an outcome tests nothing of it. */
    private static void everythingWasSeen(Due due, TreeMap<String, Integer> seen) {
        String[][] refusals = {{"A", "I", "U"}, {"A", "I"}, {"A", "I", "S"}, {"A", "I", "S"}, {"A", "I"},
            {"A", "I"}, {"A", "I", "S", "U"}, {"A", "I", "S"}, {"A"}, {"A", "I", "S", "U"}, {"A", "I"},
            {"A", "I"}, {"A", "S"}, {"A"}, {"I"}, {"A"}, {"A", "I"}, {"A", "M"}, {"A"}, {"A"}, {"A"}, {"A"}};
        for (int call = 0; call < CALLED.length; call++) {
            for (String letter : refusals[call]) {
                String outcome = CALLED[call] + " throws." + named(letter);
                due.holds("never seen: " + outcome, seen.containsKey(outcome));
            }
            if (call != 15) {
                due.holds("never seen: " + CALLED[call] + " answers", seen.containsKey(CALLED[call] + " answers"));
            }
        }
        for (int reason = 0; reason <= 6; reason++) {
            due.holds("never seen: ready " + reason, seen.containsKey("ready " + reason));
        }
    }

    private static String named(String letter) {
        switch (letter) {
            case "A": return "IllegalArgumentException";
            case "I": return "IndexOutOfBoundsException";
            case "S": return "IllegalStateException";
            case "U": return "UnsupportedOperationException";
            default: return "ArithmeticException";
        }
    }

    private interface Asked {
        long ask();
    }

    private static String answer(Asked asked) {
        try {
            return Long.toString(asked.ask());
        } catch (RuntimeException e) {
            return "throws." + e.getClass().getSimpleName();
        }
    }

    private static long real(LoadChecks x, int call, int[] a) {
        switch (call) {
            case 0: return x.vehicle(a[0], a[1], a[2], a[3]);
            case 1: x.limits(a[0], a[1], a[2]); return 0;
            case 2: x.place(a[0], a[1], a[2]); return 0;
            case 3: x.item(a[0], a[1], a[2]); return 0;
            case 4: x.list(a[0], a[1], a[2], a[3]); return 0;
            case 5: return x.stock(a[0], a[1]);
            case 6: return x.put(a[0], a[1], a[2], a[3]);
            case 7: return x.use(a[0], a[1], a[2], a[3]);
            case 8: return x.replace(a[0]);
            case 9: x.swap(a[0], a[1], a[2], a[3], a[4]); return 0;
            case 10: x.ends(a[0], a[1], a[2]); return 0;
            case 11: x.battery(a[0], a[1], a[2]); return 0;
            case 12: x.seal(a[0], a[1], a[2] != 0); return 0;
            case 13: x.check(a[0]); return 0;
            case 14: x.now(a[0], a[1]); return 0;
            case 15: return x.ready(a[0]);
            case 16: return x.missing(a[0], a[1]);
            case 17: return x.share(a[0]);
            case 18: return x.axle(a[0], a[1]);
            case 19: return x.row(a[0], a[1]);
            case 20: return x.has(a[0], a[1], a[2]);
            default: return x.stocked(a[0]);
        }
    }

    /** Draws calls and arguments: few numbers, so that they meet, and now and then a wrong one. */
    private static final class Calls {
        private final Random random;
        private final int vehicles;
        private final int cupboards;
        private final int items;
        private final int kinds;
        private final int weights;
        private final int limits;
        private int day;

        Calls(Random random) {
            this.random = random;
            vehicles = 2 + random.nextInt(3);
            cupboards = 1 + random.nextInt(8);
            items = 1 + random.nextInt(random.nextBoolean() ? 3 : 30);
            kinds = 1 + random.nextInt(2);
            weights = new int[] {0, 3, 1_000, 500_000}[random.nextInt(4)];
            limits = new int[] {0, 500, 200_000, 20_000_000}[random.nextInt(4)];
        }

        int pick() {
            int sum = 0;
            for (int weight : OFTEN) {
                sum += weight;
            }
            int drawn = random.nextInt(sum);
            for (int call = 0; call < OFTEN.length; call++) {
                drawn -= OFTEN[call];
                if (drawn < 0) {
                    return call;
                }
            }
            throw new AssertionError();
        }

        private int number(int least, int most) {
            int drawn = random.nextInt(200);
            switch (drawn) {
                case 0: return least - 1;
                case 1: return most + 1;
                case 2: return Integer.MIN_VALUE;
                case 3: return Integer.MAX_VALUE;
                case 4: case 5: case 6: case 7: return most;
                case 8: case 9: case 10: case 11: return least;
                default: return least + random.nextInt(most - least + 1);
            }
        }

        private int few(int most, int used) {
            return random.nextInt(60) == 0 ? number(0, most) : random.nextInt(used);
        }

        private int v() {
            return random.nextInt(60) == 0 ? number(0, 16) : random.nextInt(vehicles);
        }

        private int c() {
            return few(7, cupboards);
        }

        private int t() {
            return few(29, items);
        }

        private int k() {
            return few(5, kinds);
        }

        private int n() {
            return random.nextInt(3) == 0 ? number(1, 99) : 1 + random.nextInt(9);
        }

        private int limit() {
            return random.nextInt(4) == 0 ? number(0, 20_000_000) : random.nextInt(limits + 1);
        }

        private int today() {
            if (random.nextInt(4) == 0) {
                return number(0, 9_999);
            }
            day = Math.min(day + random.nextInt(2), 9_999);
            return day;
        }

        int[] arguments(int call) {
            switch (call) {
                case 0: return new int[] {k(), number(1_000, 8_000), limit(), limit()};
                case 1: return new int[] {v(), limit(), limit()};
                case 2: return new int[] {v(), c(), number(-2_000, 10_000)};
                case 3: return new int[] {t(), random.nextInt(5) == 0 ? number(0, 500_000)
                        : random.nextInt(weights + 1), number(0, 100)};
                case 4: return new int[] {k(), c(), t(), random.nextInt(3) == 0 ? number(0, 99) : random.nextInt(4)};
                case 5: return new int[] {t(), n()};
                case 6: case 7: return new int[] {v(), c(), t(), n()};
                case 9: return new int[] {v(), v(), c(), t(), n()};
                case 10: return new int[] {v(), t(), random.nextBoolean() ? -1 : number(-1, 9_999)};
                case 11: return new int[] {v(), t(), random.nextBoolean() ? 100 : number(0, 100)};
                case 12: return new int[] {v(), c(), random.nextInt(4) == 0 ? 0 : 1};
                case 14: return new int[] {random.nextInt(20) == 0 ? number(0, 9_999) : Math.max(0, today() % 40),
                        number(0, 2)};
                case 16: return new int[] {v(), number(0, 6)};
                case 18: return new int[] {v(), number(0, 3)};
                case 19: return new int[] {number(0, 140), number(0, 2)};
                case 20: return new int[] {v(), c(), t()};
                case 21: return new int[] {t()};
                default: return new int[] {v()};
            }
        }
    }

    private static final class ModelVehicle {
        int kind;
        int wheelbase;
        int front;
        int rear;
        final int[] places = new int[8];
        final int[][] counts = new int[8][30];
        final Integer[] ends = new Integer[30];
        final TreeMap<Integer, Integer> batteries = new TreeMap<>();
        final List<Integer> broken = new ArrayList<>();
        String checked = "never";
    }

    /** Says the document again in the longest way, with fractions of BigIntegers. */
    private static final class Model {
        final List<ModelVehicle> all = new ArrayList<>();
        final int[] grams = new int[30];
        final int[] least = new int[30];
        final int[] stock = new int[30];
        final int[][][] list = new int[6][8][30];
        final List<int[]> rows = new ArrayList<>();
        int day;
        int shift;

        static void unknownUnless(boolean so) {
            if (!so) {
                throw new IllegalArgumentException();
            }
        }

        static void rangeUnless(boolean so) {
            if (!so) {
                throw new IndexOutOfBoundsException();
            }
        }

        static void stateUnless(boolean so) {
            if (!so) {
                throw new IllegalStateException();
            }
        }

        static void roomUnless(boolean so) {
            if (!so) {
                throw new UnsupportedOperationException();
            }
        }

        static boolean in(int number, int from, int to) {
            return from <= number && number <= to;
        }

        ModelVehicle get(int number) {
            unknownUnless(in(number, 0, all.size() - 1));
            return all.get(number);
        }

        long call(int call, int[] a) {
            switch (call) {
                case 0: return vehicle(a);
                case 1: return limits(get(a[0]), a[1], a[2]);
                case 2: return place(get(a[0]), a[1], a[2]);
                case 3: return item(a[0], a[1], a[2]);
                case 4: return list(a[0], a[1], a[2], a[3]);
                case 5: return stock(a[0], a[1]);
                case 6: return put(get(a[0]), a[1], a[2], a[3]);
                case 7: return use(get(a[0]), a[1], a[2], a[3]);
                case 8: return replace(get(a[0]));
                case 9: return swap(a[0], a[1], a[2], a[3], a[4]);
                case 10: return ends(get(a[0]), a[1], a[2]);
                case 11: return battery(get(a[0]), a[1], a[2]);
                case 12: return seal(get(a[0]), a[1], a[2] != 0);
                case 13: get(a[0]).checked = day + "/" + shift; return 0;
                case 14: return now(a[0], a[1]);
                case 15: return ready(get(a[0]));
                case 16: return missing(get(a[0]), a[1]);
                case 17: return share(get(a[0]));
                case 18: return axle(get(a[0]), a[1]);
                case 19: return row(a[0], a[1]);
                case 20:
                    get(a[0]);
                    unknownUnless(in(a[1], 0, 7) && in(a[2], 0, 29));
                    return get(a[0]).counts[a[1]][a[2]];
                default:
                    unknownUnless(in(a[0], 0, 29));
                    return stock[a[0]];
            }
        }

        long vehicle(int[] a) {
            unknownUnless(in(a[0], 0, 5));
            rangeUnless(in(a[1], 1000, 8000) && in(a[2], 0, 20000000) && in(a[3], 0, 20000000));
            roomUnless(all.size() < 16);
            ModelVehicle v = new ModelVehicle();
            v.kind = a[0];
            v.wheelbase = a[1];
            v.front = a[2];
            v.rear = a[3];
            all.add(v);
            return all.size() - 1;
        }

        long limits(ModelVehicle v, int front, int rear) {
            rangeUnless(in(front, 0, 20000000) && in(rear, 0, 20000000));
            v.front = front;
            v.rear = rear;
            return 0;
        }

        long place(ModelVehicle v, int cupboard, int mm) {
            unknownUnless(in(cupboard, 0, 7));
            rangeUnless(in(mm, -2000, 10000));
            stateUnless(java.util.Arrays.stream(v.counts[cupboard]).sum() == 0);
            v.places[cupboard] = mm;
            return 0;
        }

        long item(int item, int weight, int battery) {
            unknownUnless(in(item, 0, 29));
            rangeUnless(in(weight, 0, 500000) && in(battery, 0, 100));
            int sum = stock[item];
            for (ModelVehicle v : all) {
                for (int[] cupboard : v.counts) {
                    sum += cupboard[item];
                }
            }
            stateUnless(weight == grams[item] || sum == 0);
            grams[item] = weight;
            least[item] = battery;
            return 0;
        }

        long list(int kind, int cupboard, int item, int count) {
            unknownUnless(in(kind, 0, 5) && in(cupboard, 0, 7) && in(item, 0, 29));
            rangeUnless(in(count, 0, 99));
            list[kind][cupboard][item] = count;
            return 0;
        }

        long stock(int item, int n) {
            unknownUnless(in(item, 0, 29));
            rangeUnless(in(n, 1, 99));
            roomUnless(stock[item] + n <= 10000);
            return stock[item] += n;
        }

        /** Upper number and lower number of the front axle, then of the rear. */
        BigInteger[] borne(ModelVehicle v) {
            BigInteger moment = BigInteger.ZERO;
            BigInteger sum = BigInteger.ZERO;
            for (int c = 0; c < 8; c++) {
                for (int t = 0; t < 30; t++) {
                    BigInteger weight = BigInteger.valueOf(grams[t]).multiply(BigInteger.valueOf(v.counts[c][t]));
                    sum = sum.add(weight);
                    moment = moment.add(weight.multiply(BigInteger.valueOf(v.places[c])));
                }
            }
            BigInteger base = BigInteger.valueOf(v.wheelbase);
            BigInteger front = sum.multiply(base).subtract(moment);
            BigInteger frontDivisor = front.gcd(base);
            BigInteger rearDivisor = moment.gcd(base);
            return new BigInteger[] {front.divide(frontDivisor), base.divide(frontDivisor),
                moment.divide(rearDivisor), base.divide(rearDivisor)};
        }

        static int compare(BigInteger upper, BigInteger lower, BigInteger otherUpper, BigInteger otherLower) {
            return upper.multiply(otherLower).compareTo(otherUpper.multiply(lower));
        }

        boolean refusedByAxles(ModelVehicle v, int cupboard, int item, int n) {
            BigInteger[] before = borne(v);
            v.counts[cupboard][item] += n;
            BigInteger[] after = borne(v);
            v.counts[cupboard][item] -= n;
            boolean refused = false;
            for (int axle = 0; axle < 2; axle++) {
                BigInteger upper = after[2 * axle];
                BigInteger lower = after[2 * axle + 1];
                BigInteger limit = BigInteger.valueOf(axle == 0 ? v.front : v.rear);
                refused |= compare(upper, lower, limit, BigInteger.ONE) > 0
                        && compare(upper, lower, before[2 * axle], before[2 * axle + 1]) > 0;
            }
            return refused;
        }

        void unknownOrRange(int cupboard, int item, int n) {
            unknownUnless(in(cupboard, 0, 7) && in(item, 0, 29));
            rangeUnless(in(n, 1, 99));
        }

        long put(ModelVehicle v, int cupboard, int item, int n) {
            unknownOrRange(cupboard, item, n);
            stateUnless(!refusedByAxles(v, cupboard, item, n));
            roomUnless(v.counts[cupboard][item] + n <= 99);
            return v.counts[cupboard][item] += n;
        }

        long use(ModelVehicle v, int cupboard, int item, int n) {
            unknownOrRange(cupboard, item, n);
            stateUnless(v.counts[cupboard][item] >= n);
            return v.counts[cupboard][item] -= n;
        }

        long replace(ModelVehicle v) {
            int sum = 0;
            for (int c = 0; c < 8; c++) {
                for (int t = 0; t < 30; t++) {
                    int n = Math.min(list[v.kind][c][t] - v.counts[c][t], stock[t]);
                    if (n <= 0 || refusedByAxles(v, c, t, n)) {
                        continue;
                    }
                    v.counts[c][t] += n;
                    stock[t] -= n;
                    sum += n;
                }
            }
            return sum;
        }

        long swap(int from, int to, int cupboard, int item, int n) {
            ModelVehicle giver = get(from);
            ModelVehicle getter = get(to);
            unknownUnless(from != to);
            unknownOrRange(cupboard, item, n);
            stateUnless(giver.counts[cupboard][item] >= n && !refusedByAxles(getter, cupboard, item, n));
            roomUnless(getter.counts[cupboard][item] + n <= 99);
            giver.counts[cupboard][item] -= n;
            getter.counts[cupboard][item] += n;
            rows.add(new int[] {from, item, -n});
            rows.add(new int[] {to, item, n});
            return 0;
        }

        long ends(ModelVehicle v, int item, int day) {
            unknownUnless(in(item, 0, 29));
            rangeUnless(in(day, -1, 9999));
            v.ends[item] = day == -1 ? null : Integer.valueOf(day);
            return 0;
        }

        long battery(ModelVehicle v, int item, int percent) {
            unknownUnless(in(item, 0, 29));
            rangeUnless(in(percent, 0, 100));
            v.batteries.put(item, percent);
            return 0;
        }

        long seal(ModelVehicle v, int cupboard, boolean whole) {
            unknownUnless(in(cupboard, 0, 7));
            stateUnless(whole == v.broken.contains(cupboard));
            if (whole) {
                v.broken.remove(Integer.valueOf(cupboard));
            } else {
                v.broken.add(cupboard);
            }
            return 0;
        }

        long now(int newDay, int newShift) {
            rangeUnless(in(newDay, 0, 9999) && in(newShift, 0, 2));
            rangeUnless(newDay * 3 + newShift >= day * 3 + shift);
            day = newDay;
            shift = newShift;
            return 0;
        }

        long ready(ModelVehicle v) {
            boolean past = false;
            boolean weak = false;
            for (int c = 0; c < 8; c++) {
                for (int t = 0; t < 30; t++) {
                    boolean needed = list[v.kind][c][t] > 0;
                    past |= needed && v.ends[t] != null && v.ends[t] <= day;
                    weak |= needed && v.batteries.getOrDefault(t, 100) < least[t];
                }
            }
            BigInteger[] borne = borne(v);
            boolean beyond = compare(borne[0], borne[1], BigInteger.valueOf(v.front), BigInteger.ONE) > 0
                    || compare(borne[2], borne[3], BigInteger.valueOf(v.rear), BigInteger.ONE) > 0;
            boolean[] reasons = {!v.checked.equals(day + "/" + shift), missing(v, 0) != -1, !v.broken.isEmpty(), past,
                weak, beyond};
            for (int i = 0; i < reasons.length; i++) {
                if (reasons[i]) {
                    return i + 1;
                }
            }
            return 0;
        }

        long missing(ModelVehicle v, int i) {
            rangeUnless(i >= 0);
            List<Integer> found = new ArrayList<>();
            for (int c = 0; c < 8; c++) {
                for (int t = 0; t < 30; t++) {
                    int lack = list[v.kind][c][t] - v.counts[c][t];
                    if (lack > 0) {
                        found.add(c * 10000 + t * 100 + lack);
                    }
                }
            }
            return i < found.size() ? found.get(i) : -1;
        }

        long share(ModelVehicle v) {
            long needed = 0;
            long lacks = 0;
            for (int c = 0; c < 8; c++) {
                for (int t = 0; t < 30; t++) {
                    needed += list[v.kind][c][t];
                    lacks += Math.max(0, list[v.kind][c][t] - v.counts[c][t]);
                }
            }
            if (needed == 0) {
                throw new ArithmeticException();
            }
            return Math.floorDiv(1000 * (needed - lacks), needed);
        }

        long axle(ModelVehicle v, int what) {
            unknownUnless(in(what, 0, 3));
            return borne(v)[what].longValueExact();
        }

        long row(int i, int what) {
            unknownUnless(in(i, Math.max(0, rows.size() - 100), rows.size() - 1) && in(what, 0, 2));
            return rows.get(i)[what];
        }
    }
}
