import java.util.Arrays;

/** Loads of rescue vehicles; ../shared/DOC.md numbers the promises that each method keeps. */
public final class LoadChecks {
    private static final int KINDS = 6;
    private static final int ITEMS = 30;
    private static final int CUPBOARDS = 8;
    // Cells run by cupboards, then items: the order in which missing and replace go.
    private static final int CELLS = CUPBOARDS * ITEMS;
    private static final int MOST_VEHICLES = 16;

    private static final int LEAST_WHEELBASE = 1_000;
    private static final int MOST_WHEELBASE = 8_000;
    private static final int MOST_LIMIT = 20_000_000;
    private static final int LEAST_PLACE = -2_000;
    private static final int MOST_PLACE = 10_000;
    private static final int MOST_GRAMS = 500_000;
    private static final int FULL_BATTERY = 100;
    private static final int MOST_IN_CELL = 99;
    private static final int MOST_MOVED = 99;
    private static final int MOST_STOCK = 10_000;
    private static final int MOST_DAY = 9_999;
    private static final int MOST_SHIFT = 2;
    private static final int NONE = -1;

    private static final int READY = 0;
    private static final int NOT_CHECKED = 1;
    private static final int SOMETHING_MISSING = 2;
    private static final int SEAL_BROKEN = 3;
    private static final int ITEM_PAST = 4;
    private static final int BATTERY_LOW = 5;
    private static final int AXLE_BEYOND = 6;

    private static final int AXLE_NUMBERS = 4;
    // Euclid on two longs takes fewer than 100 steps.
    private static final int MOST_DIVISOR_STEPS = 200;

    private final int[] weights = new int[ITEMS];
    private final int[] leastBatteries = new int[ITEMS];
    private final int[] stocks = new int[ITEMS];
    private final int[][] needs = new int[KINDS][CELLS];
    private final Vehicle[] vehicles = new Vehicle[MOST_VEHICLES];
    private final Rows rows = new Rows();
    private int vehicleCount;
    private int presentDay;
    private int presentShift;

    public LoadChecks() {
        for (int i = 0; i < MOST_VEHICLES; i++) {
            vehicles[i] = new Vehicle();
        }
    }

    public int vehicle(int kind, int wheelbase, int front, int rear)
            throws IllegalArgumentException, IndexOutOfBoundsException, UnsupportedOperationException {
        requireKind(kind);
        requireRange(wheelbase, LEAST_WHEELBASE, MOST_WHEELBASE);
        requireLimits(front, rear);
        if (vehicleCount >= MOST_VEHICLES) {
            throw new UnsupportedOperationException("no room for one more vehicle");
        }
        Vehicle added = vehicles[vehicleCount];
        added.kind = kind;
        added.wheelbase = wheelbase;
        added.frontLimit = front;
        added.rearLimit = rear;
        vehicleCount++;
        return vehicleCount - 1;
    }

    public void limits(int vehicle, int front, int rear)
            throws IllegalArgumentException, IndexOutOfBoundsException {
        Vehicle limited = knownVehicle(vehicle);
        requireLimits(front, rear);
        limited.frontLimit = front;
        limited.rearLimit = rear;
    }

    public void place(int vehicle, int cupboard, int mm)
            throws IllegalArgumentException, IndexOutOfBoundsException, IllegalStateException {
        Vehicle holder = knownVehicle(vehicle);
        requireCupboard(cupboard);
        requireRange(mm, LEAST_PLACE, MOST_PLACE);
        if (!holder.isEmpty(cupboard)) {
            throw new IllegalStateException("the cupboard is not empty");
        }
        holder.places[cupboard] = mm;
    }

    public void item(int item, int grams, int least)
            throws IllegalArgumentException, IndexOutOfBoundsException, IllegalStateException {
        requireItem(item);
        requireRange(grams, 0, MOST_GRAMS);
        requireRange(least, 0, FULL_BATTERY);
        if (grams != weights[item] && isAnywhere(item)) {
            throw new IllegalStateException("a vehicle or the stock has some of the old weight");
        }
        weights[item] = grams;
        leastBatteries[item] = least;
    }

    public void list(int kind, int cupboard, int item, int count)
            throws IllegalArgumentException, IndexOutOfBoundsException {
        requireKind(kind);
        requireCupboard(cupboard);
        requireItem(item);
        requireRange(count, 0, MOST_IN_CELL);
        needs[kind][cellOf(cupboard, item)] = count;
    }

    public int stock(int item, int n)
            throws IllegalArgumentException, IndexOutOfBoundsException, UnsupportedOperationException {
        requireItem(item);
        requireRange(n, 1, MOST_MOVED);
        if (stocks[item] + n > MOST_STOCK) {
            throw new UnsupportedOperationException("no room in stock");
        }
        stocks[item] += n;
        return stocks[item];
    }

    public int put(int vehicle, int cupboard, int item, int n)
            throws IllegalArgumentException, IndexOutOfBoundsException, IllegalStateException,
            UnsupportedOperationException {
        Vehicle getter = knownVehicle(vehicle);
        requireCupboard(cupboard);
        requireItem(item);
        requireRange(n, 1, MOST_MOVED);
        int cell = cellOf(cupboard, item);
        requireBearable(getter, cell, n);
        requireRoom(getter, cell, n);
        getter.load(cell, n, weights[item]);
        return getter.counts[cell];
    }

    public int use(int vehicle, int cupboard, int item, int n)
            throws IllegalArgumentException, IndexOutOfBoundsException, IllegalStateException {
        Vehicle user = knownVehicle(vehicle);
        requireCupboard(cupboard);
        requireItem(item);
        requireRange(n, 1, MOST_MOVED);
        int cell = cellOf(cupboard, item);
        requireSoMany(user, cell, n);
        user.load(cell, -n, weights[item]);
        return user.counts[cell];
    }

    public int replace(int vehicle) throws IllegalArgumentException {
        Vehicle getter = knownVehicle(vehicle);
        int[] needed = needs[getter.kind];
        int replaced = 0;
        for (int cell = 0; cell < CELLS; cell++) {
            int item = cell % ITEMS;
            int n = Math.min(getter.lackOf(cell, needed[cell]), stocks[item]);
            if (n > 0 && getter.bears(cell, n, weights[item])) {
                getter.load(cell, n, weights[item]);
                stocks[item] -= n;
                replaced += n;
            }
        }
        return replaced;
    }

    public void swap(int from, int to, int cupboard, int item, int n)
            throws IllegalArgumentException, IndexOutOfBoundsException, IllegalStateException,
            UnsupportedOperationException {
        Vehicle giver = knownVehicle(from);
        Vehicle getter = knownVehicle(to);
        if (from == to) {
            throw new IllegalArgumentException("a vehicle swaps with another one");
        }
        requireCupboard(cupboard);
        requireItem(item);
        requireRange(n, 1, MOST_MOVED);
        int cell = cellOf(cupboard, item);
        requireSoMany(giver, cell, n);
        requireBearable(getter, cell, n);
        requireRoom(getter, cell, n);
        giver.load(cell, -n, weights[item]);
        getter.load(cell, n, weights[item]);
        rows.add(from, item, -n);
        rows.add(to, item, n);
    }

    public void ends(int vehicle, int item, int day)
            throws IllegalArgumentException, IndexOutOfBoundsException {
        Vehicle holder = knownVehicle(vehicle);
        requireItem(item);
        requireRange(day, NONE, MOST_DAY);
        holder.endDays[item] = day;
    }

    public void battery(int vehicle, int item, int percent)
            throws IllegalArgumentException, IndexOutOfBoundsException {
        Vehicle holder = knownVehicle(vehicle);
        requireItem(item);
        requireRange(percent, 0, FULL_BATTERY);
        holder.batteries[item] = percent;
    }

    public void seal(int vehicle, int cupboard, boolean whole)
            throws IllegalArgumentException, IllegalStateException {
        Vehicle holder = knownVehicle(vehicle);
        requireCupboard(cupboard);
        boolean broken = !whole;
        if (holder.brokenSeals[cupboard] == broken) {
            throw new IllegalStateException("the seal is so already");
        }
        holder.brokenSeals[cupboard] = broken;
    }

    public void check(int vehicle) throws IllegalArgumentException {
        Vehicle checked = knownVehicle(vehicle);
        checked.checkedDay = presentDay;
        checked.checkedShift = presentShift;
    }

    public void now(int day, int shift) throws IndexOutOfBoundsException {
        requireRange(day, presentDay, MOST_DAY);
        int earliestShift = day == presentDay ? presentShift : 0;
        requireRange(shift, earliestShift, MOST_SHIFT);
        presentDay = day;
        presentShift = shift;
    }

    public int ready(int vehicle) throws IllegalArgumentException {
        Vehicle asked = knownVehicle(vehicle);
        int[] needed = needs[asked.kind];
        if (asked.checkedDay != presentDay || asked.checkedShift != presentShift) {
            return NOT_CHECKED;
        }
        if (asked.missingCell(needed, 0) != NONE) {
            return SOMETHING_MISSING;
        }
        if (asked.hasBrokenSeal()) {
            return SEAL_BROKEN;
        }
        if (asked.needsPastItem(needed, presentDay)) {
            return ITEM_PAST;
        }
        if (asked.needsWeakItem(needed, leastBatteries)) {
            return BATTERY_LOW;
        }
        return asked.isBeyond() ? AXLE_BEYOND : READY;
    }

    public int missing(int vehicle, int i) throws IllegalArgumentException, IndexOutOfBoundsException {
        Vehicle asked = knownVehicle(vehicle);
        if (i < 0) {
            throw new IndexOutOfBoundsException("below the first");
        }
        int[] needed = needs[asked.kind];
        int cell = asked.missingCell(needed, i);
        if (cell < 0 || cell >= CELLS) {
            return NONE;
        }
        return 10_000 * (cell / ITEMS) + 100 * (cell % ITEMS) + asked.lackOf(cell, needed[cell]);
    }

    public int share(int vehicle) throws IllegalArgumentException, ArithmeticException {
        Vehicle asked = knownVehicle(vehicle);
        int[] needed = needs[asked.kind];
        int wanted = 0;
        int present = 0;
        for (int cell = 0; cell < CELLS; cell++) {
            wanted += needed[cell];
            present += Math.min(asked.counts[cell], needed[cell]);
        }
        if (wanted == 0) {
            throw new ArithmeticException("nothing is needed");
        }
        return 1_000 * present / wanted;
    }

    public long axle(int vehicle, int what) throws IllegalArgumentException {
        Vehicle asked = knownVehicle(vehicle);
        if (what < 0 || what >= AXLE_NUMBERS) {
            throw new IllegalArgumentException("no such number of an axle");
        }
        long upper = what < 2 ? asked.frontMoment() : asked.rearMoment();
        long lower = asked.wheelbase;
        long divisor = commonDivisor(upper, lower);
        return (what % 2 == 0 ? upper : lower) / divisor;
    }

    public int row(int i, int what) throws IllegalArgumentException {
        if (!rows.keeps(i) || what < 0 || what >= Rows.WIDTH) {
            throw new IllegalArgumentException("no such row or number of it");
        }
        return rows.number(i, what);
    }

    public int has(int vehicle, int cupboard, int item) throws IllegalArgumentException {
        Vehicle asked = knownVehicle(vehicle);
        requireCupboard(cupboard);
        requireItem(item);
        return asked.counts[cellOf(cupboard, item)];
    }

    public int stocked(int item) throws IllegalArgumentException {
        requireItem(item);
        return stocks[item];
    }

    private Vehicle knownVehicle(int vehicle) {
        if (vehicle < 0 || vehicle >= vehicleCount) {
            throw new IllegalArgumentException("no such vehicle");
        }
        return vehicles[vehicle];
    }

    private static void requireKind(int kind) {
        if (kind < 0 || kind >= KINDS) {
            throw new IllegalArgumentException("no such kind");
        }
    }

    private static void requireCupboard(int cupboard) {
        if (cupboard < 0 || cupboard >= CUPBOARDS) {
            throw new IllegalArgumentException("no such cupboard");
        }
    }

    private static void requireItem(int item) {
        if (item < 0 || item >= ITEMS) {
            throw new IllegalArgumentException("no such item");
        }
    }

    private static void requireRange(int number, int least, int most) {
        if (number < least || number > most) {
            throw new IndexOutOfBoundsException("outside its range");
        }
    }

    private static void requireLimits(int front, int rear) {
        requireRange(front, 0, MOST_LIMIT);
        requireRange(rear, 0, MOST_LIMIT);
    }

    private static void requireSoMany(Vehicle giver, int cell, int n) {
        if (giver.counts[cell] < n) {
            throw new IllegalStateException("there are not so many");
        }
    }

    private void requireBearable(Vehicle getter, int cell, int n) {
        if (!getter.bears(cell, n, weights[cell % ITEMS])) {
            throw new IllegalStateException("an axle would be beyond its limit");
        }
    }

    private static void requireRoom(Vehicle getter, int cell, int n) {
        if (getter.counts[cell] + n > MOST_IN_CELL) {
            throw new UnsupportedOperationException("no room in the cupboard");
        }
    }

    private static int cellOf(int cupboard, int item) {
        return cupboard * ITEMS + item;
    }

    private boolean isAnywhere(int item) {
        if (stocks[item] > 0) {
            return true;
        }
        for (int i = 0; i < vehicleCount; i++) {
            if (vehicles[i].carries(item)) {
                return true;
            }
        }
        return false;
    }

    /** At least 1, so that it may divide. */
    private static long commonDivisor(long upper, long lower) {
        long a = Math.abs(upper);
        long b = lower;
        for (int step = 0; step < MOST_DIVISOR_STEPS && b != 0; step++) {
            long rest = a % b;
            a = b;
            b = rest;
        }
        return Math.max(a, 1L);
    }

    private static final class Vehicle {
        private final int[] places = new int[CUPBOARDS];
        private final boolean[] brokenSeals = new boolean[CUPBOARDS];
        private final int[] counts = new int[CELLS];
        private final int[] endDays = new int[ITEMS];
        private final int[] batteries = new int[ITEMS];
        private int kind;
        private int wheelbase = LEAST_WHEELBASE;
        private int frontLimit;
        private int rearLimit;
        private int checkedDay = NONE;
        private int checkedShift = NONE;
        // Kept as sums: neither a weight nor a place changes while something that it counts for is aboard.
        private long grams;
        private long moment;

        private Vehicle() {
            Arrays.fill(endDays, NONE);
            Arrays.fill(batteries, FULL_BATTERY);
        }

        // Loads are compared as moments, that is times the wheelbase, so that they stay whole numbers.
        private long frontMoment() {
            return grams * wheelbase - moment;
        }

        private long rearMoment() {
            return moment;
        }

        private boolean isBeyond() {
            return exceeds(frontMoment(), frontLimit) || exceeds(rearMoment(), rearLimit);
        }

        private boolean exceeds(long axleMoment, int limit) {
            return axleMoment > (long) limit * wheelbase;
        }

        /** An axle that is beyond already does not refuse what leaves it as it is or relieves it. */
        private boolean bears(int cell, int n, int weight) {
            long moreGrams = (long) weight * n;
            long moreRear = moreGrams * places[cell / ITEMS];
            long moreFront = moreGrams * wheelbase - moreRear;
            boolean frontRefuses = moreFront > 0 && exceeds(frontMoment() + moreFront, frontLimit);
            boolean rearRefuses = moreRear > 0 && exceeds(rearMoment() + moreRear, rearLimit);
            return !frontRefuses && !rearRefuses;
        }

        /** n is below 0 for what goes. */
        private void load(int cell, int n, int weight) {
            long moreGrams = (long) weight * n;
            counts[cell] += n;
            grams += moreGrams;
            moment += moreGrams * places[cell / ITEMS];
        }

        private boolean isEmpty(int cupboard) {
            for (int item = 0; item < ITEMS; item++) {
                if (counts[cellOf(cupboard, item)] > 0) {
                    return false;
                }
            }
            return true;
        }

        private boolean carries(int item) {
            for (int cupboard = 0; cupboard < CUPBOARDS; cupboard++) {
                if (counts[cellOf(cupboard, item)] > 0) {
                    return true;
                }
            }
            return false;
        }

        private int lackOf(int cell, int needed) {
            return Math.max(needed - counts[cell], 0);
        }

        /** The cell of the i-th thing that is missing, NONE when there are not so many. */
        private int missingCell(int[] needed, int i) {
            int before = 0;
            for (int cell = 0; cell < CELLS; cell++) {
                if (lackOf(cell, needed[cell]) > 0) {
                    if (before == i) {
                        return cell;
                    }
                    before++;
                }
            }
            return NONE;
        }

        private boolean hasBrokenSeal() {
            for (int cupboard = 0; cupboard < CUPBOARDS; cupboard++) {
                if (brokenSeals[cupboard]) {
                    return true;
                }
            }
            return false;
        }

        private boolean needsPastItem(int[] needed, int day) {
            for (int cell = 0; cell < CELLS; cell++) {
                int end = endDays[cell % ITEMS];
                if (needed[cell] > 0 && end != NONE && day >= end) {
                    return true;
                }
            }
            return false;
        }

        private boolean needsWeakItem(int[] needed, int[] leasts) {
            for (int cell = 0; cell < CELLS; cell++) {
                int item = cell % ITEMS;
                if (needed[cell] > 0 && batteries[item] < leasts[item]) {
                    return true;
                }
            }
            return false;
        }
    }

    /** The latest rows of all swaps, in a ring. */
    private static final class Rows {
        private static final int WIDTH = 3;
        private static final int KEPT = 100;

        private final int[] numbers = new int[KEPT * WIDTH];
        // Long, so that no number of swaps makes it wrap to an index below 0.
        private long made;

        private void add(int vehicle, int item, int count) {
            int start = (int) (made % KEPT) * WIDTH;
            numbers[start] = vehicle;
            numbers[start + 1] = item;
            numbers[start + 2] = count;
            made++;
        }

        private boolean keeps(int i) {
            return i >= 0 && i < made && i >= made - KEPT;
        }

        private int number(int i, int what) {
            return numbers[i % KEPT * WIDTH + what];
        }
    }
}
