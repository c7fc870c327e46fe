/** Each promise of the document by its number: ordinary inputs, edges, and refusals that change nothing. */
public final class PromisesTest {
    private static final int MAX = Integer.MAX_VALUE;
    private static final int MIN = Integer.MIN_VALUE;
    private static final int WIDE = 20_000_000;

    private static final Due due = new Due();

    public static void main(String[] args) {
        p1NewObject();
        p2Vehicle();
        p3Limits();
        p4Place();
        p5Item();
        p6List();
        p7Stock();
        p8Put();
        p8PutAtTheLimits();
        p8PutOnAnAxleThatIsBeyond();
        p8PutOrderOfRefusals();
        p9Use();
        p10Replace();
        p10ReplaceLeavesOut();
        p11Swap();
        p11SwapRefusals();
        p12Ends();
        p13Battery();
        p14Seal();
        p15Check();
        p16Now();
        p17Ready();
        p17ReadyFirstReason();
        p18Missing();
        p19Share();
        p20Axle();
        p21Row();
        p22Has();
        p23Stocked();
        due.end();
    }

    /** Two vehicles of kind 0 with limits that nothing in these tests reaches. */
    private static LoadChecks wide() {
        LoadChecks x = new LoadChecks();
        x.vehicle(0, 4_000, WIDE, WIDE);
        x.vehicle(0, 4_000, WIDE, WIDE);
        return x;
    }

    private static void p1NewObject() {
        LoadChecks x = new LoadChecks();
        due.refuses("1: ready(0) of none", Due.UNKNOWN, () -> x.ready(0));
        due.refuses("1: has(0, 0, 0) of none", Due.UNKNOWN, () -> x.has(0, 0, 0));
        due.refuses("1: row(0, 0) of none", Due.UNKNOWN, () -> x.row(0, 0));
        for (int item = 0; item < 30; item++) {
            int asked = item;
            due.answers("1: stocked", 0, () -> x.stocked(asked));
        }
        LoadChecks other = new LoadChecks();
        x.vehicle(0, 1_000, 0, 0);
        x.stock(3, 4);
        due.answers("1: objects share nothing", 0, () -> other.stocked(3));
        due.refuses("1: objects share no vehicle", Due.UNKNOWN, () -> other.ready(0));
    }

    private static void p2Vehicle() {
        LoadChecks x = new LoadChecks();
        for (int kind : new int[] {-1, 6, MAX, MIN}) {
            due.refuses("2: kind " + kind, Due.UNKNOWN, () -> x.vehicle(kind, 999, -1, -1));
        }
        for (int wheelbase : new int[] {999, 8_001, 0, -4_000, MAX, MIN}) {
            due.refuses("2: wheelbase " + wheelbase, Due.RANGE, () -> x.vehicle(0, wheelbase, 0, 0));
        }
        for (int limit : new int[] {-1, 20_000_001, MAX, MIN}) {
            due.refuses("2: front " + limit, Due.RANGE, () -> x.vehicle(0, 4_000, limit, 0));
            due.refuses("2: rear " + limit, Due.RANGE, () -> x.vehicle(0, 4_000, 0, limit));
        }
        due.answers("2: least of all", 0, () -> x.vehicle(0, 1_000, 0, 0));
        due.answers("2: most of all", 1, () -> x.vehicle(5, 8_000, WIDE, WIDE));
        for (int i = 2; i < 16; i++) {
            int number = i;
            due.refuses("2: not yet there", Due.UNKNOWN, () -> x.check(number));
            due.answers("2: the next number", number, () -> x.vehicle(1, 4_000, 0, 0));
            due.passes("2: there now", () -> x.check(number));
        }
        due.refuses("2: no room", Due.NO_ROOM, () -> x.vehicle(0, 4_000, 0, 0));
        due.refuses("2: range before room", Due.RANGE, () -> x.vehicle(0, 999, 0, 0));
        due.refuses("2: unknown before room", Due.UNKNOWN, () -> x.vehicle(6, 4_000, 0, 0));
        due.refuses("2: no 16", Due.UNKNOWN, () -> x.check(16));
        for (int vehicle : new int[] {-1, MAX, MIN}) {
            due.refuses("2: no " + vehicle, Due.UNKNOWN, () -> x.check(vehicle));
        }
    }

    private static void p3Limits() {
        LoadChecks x = new LoadChecks();
        due.refuses("3: no vehicle", Due.UNKNOWN, () -> x.limits(0, -1, -1));
        x.vehicle(0, 1_000, 0, 0);
        x.item(0, 10, 0);
        x.place(0, 0, 500);
        due.refuses("3: limits of 0 hold", Due.STATE, () -> x.put(0, 0, 0, 1));
        x.limits(0, 5, 4);
        due.refuses("3: the rear's", Due.STATE, () -> x.put(0, 0, 0, 1));
        x.limits(0, 4, 5);
        due.refuses("3: the front's", Due.STATE, () -> x.put(0, 0, 0, 1));
        x.limits(0, 5, 5);
        for (int limit : new int[] {-1, 20_000_001, MAX, MIN}) {
            due.refuses("3: front " + limit, Due.RANGE, () -> x.limits(0, limit, 0));
            due.refuses("3: rear " + limit, Due.RANGE, () -> x.limits(0, 0, limit));
        }
        due.answers("3: both as they were", 1, () -> x.put(0, 0, 0, 1));
        due.passes("3: below what is borne", () -> x.limits(0, 0, 0));
        due.passes("3: most", () -> x.limits(0, WIDE, WIDE));
        due.refuses("3: vehicle 1", Due.UNKNOWN, () -> x.limits(1, 0, 0));
        due.refuses("3: vehicle -1", Due.UNKNOWN, () -> x.limits(-1, 0, 0));
    }

    private static void p4Place() {
        LoadChecks x = wide();
        x.item(0, 4_000, 0);
        for (int mm : new int[] {-2_001, 10_001, MAX, MIN}) {
            due.refuses("4: place " + mm, Due.RANGE, () -> x.place(0, 0, mm));
        }
        for (int cupboard : new int[] {-1, 8, MAX, MIN}) {
            due.refuses("4: cupboard " + cupboard, Due.UNKNOWN, () -> x.place(0, cupboard, 10_001));
        }
        due.refuses("4: vehicle 2", Due.UNKNOWN, () -> x.place(2, 0, 10_001));
        x.put(0, 0, 0, 1);
        due.answers("4: 0 at first", 0, () -> x.axle(0, 2));
        due.refuses("4: not empty", Due.STATE, () -> x.place(0, 0, 7));
        due.refuses("4: not empty, the same place", Due.STATE, () -> x.place(0, 0, 0));
        due.refuses("4: range before state", Due.RANGE, () -> x.place(0, 0, 10_001));
        due.passes("4: the same cupboard of another vehicle", () -> x.place(1, 0, 100));
        due.passes("4: another cupboard", () -> x.place(0, 7, -2_000));
        x.put(0, 7, 0, 1);
        due.answers("4: before the front axle", -2_000, () -> x.axle(0, 2));
        x.use(0, 0, 0, 1);
        x.use(0, 7, 0, 1);
        due.passes("4: empty again", () -> x.place(0, 0, 10_000));
        x.put(0, 0, 0, 1);
        due.answers("4: behind the rear axle", 10_000, () -> x.axle(0, 2));
        due.answers("4: the front axle goes below 0", -6_000, () -> x.axle(0, 0));
        x.put(1, 3, 29, 1);
        due.refuses("4: what weighs nothing is in it too", Due.STATE, () -> x.place(1, 3, 1));
    }

    private static void p5Item() {
        LoadChecks x = wide();
        for (int item : new int[] {-1, 30, MAX, MIN}) {
            due.refuses("5: item " + item, Due.UNKNOWN, () -> x.item(item, -1, -1));
        }
        for (int grams : new int[] {-1, 500_001, MAX, MIN}) {
            due.refuses("5: grams " + grams, Due.RANGE, () -> x.item(0, grams, 0));
        }
        for (int least : new int[] {-1, 101, MAX, MIN}) {
            due.refuses("5: least " + least, Due.RANGE, () -> x.item(0, 0, least));
        }
        due.passes("5: most", () -> x.item(29, 500_000, 100));
        x.put(1, 7, 29, 1);
        due.answers("5: the weight is borne", 500_000, () -> x.axle(1, 0));
        due.refuses("5: a vehicle has some", Due.STATE, () -> x.item(29, 499_999, 0));
        due.refuses("5: range before state", Due.RANGE, () -> x.item(29, 499_999, 101));
        x.list(0, 7, 29, 1);
        x.check(1);
        x.battery(1, 29, 99);
        due.answers("5: the refused least is not kept", 5, () -> x.ready(1));
        due.passes("5: the same weight", () -> x.item(29, 500_000, 99));
        due.answers("5: the least is", 0, () -> x.ready(1));
        x.use(1, 7, 29, 1);
        due.passes("5: none has some", () -> x.item(29, 1, 0));
        x.stock(28, 1);
        due.refuses("5: the stock has some, weight 0 at first", Due.STATE, () -> x.item(28, 1, 0));
        due.passes("5: the stock has some, the same weight", () -> x.item(28, 0, 1));
        due.passes("5: another item", () -> x.item(27, 1, 0));
        x.list(0, 0, 28, 1);
        x.replace(0);
        due.refuses("5: from stock into a vehicle", Due.STATE, () -> x.item(28, 1, 0));
    }

    private static void p6List() {
        LoadChecks x = wide();
        x.vehicle(5, 4_000, 0, 0);
        for (int wrong : new int[] {-1, MAX, MIN}) {
            due.refuses("6: kind", Due.UNKNOWN, () -> x.list(wrong, 0, 0, -1));
            due.refuses("6: cupboard", Due.UNKNOWN, () -> x.list(0, wrong, 0, -1));
            due.refuses("6: item", Due.UNKNOWN, () -> x.list(0, 0, wrong, -1));
            due.refuses("6: count", Due.RANGE, () -> x.list(0, 0, 0, wrong));
        }
        due.refuses("6: kind 6", Due.UNKNOWN, () -> x.list(6, 0, 0, 100));
        due.refuses("6: cupboard 8", Due.UNKNOWN, () -> x.list(0, 8, 0, 100));
        due.refuses("6: item 30", Due.UNKNOWN, () -> x.list(0, 0, 30, 100));
        due.refuses("6: count 100", Due.RANGE, () -> x.list(0, 0, 0, 100));
        due.answers("6: nothing at first", -1, () -> x.missing(0, 0));
        due.passes("6: most", () -> x.list(5, 7, 29, 99));
        due.answers("6: of its kind", 72_999, () -> x.missing(2, 0));
        due.answers("6: not of another", -1, () -> x.missing(0, 0));
        due.passes("6: less", () -> x.list(5, 7, 29, 1));
        due.answers("6: in its stead", 72_901, () -> x.missing(2, 0));
        due.passes("6: none", () -> x.list(5, 7, 29, 0));
        due.answers("6: none any more", -1, () -> x.missing(2, 0));
    }

    private static void p7Stock() {
        LoadChecks x = new LoadChecks();
        for (int item : new int[] {-1, 30, MAX, MIN}) {
            due.refuses("7: item " + item, Due.UNKNOWN, () -> x.stock(item, 0));
        }
        for (int n : new int[] {0, -1, 100, MAX, MIN}) {
            due.refuses("7: n " + n, Due.RANGE, () -> x.stock(0, n));
        }
        due.answers("7: 1", 1, () -> x.stock(0, 1));
        for (int i = 1; i <= 101; i++) {
            int sum = 1 + 99 * i;
            due.answers("7: 99 more", sum, () -> x.stock(0, 99));
        }
        due.answers("7: as many as told", 10_000, () -> x.stocked(0));
        due.refuses("7: one above 10,000", Due.NO_ROOM, () -> x.stock(0, 1));
        due.refuses("7: range before room", Due.RANGE, () -> x.stock(0, 100));
        due.answers("7: as it was", 10_000, () -> x.stocked(0));
        due.answers("7: another item", 99, () -> x.stock(29, 99));
    }

    private static void p8Put() {
        LoadChecks x = wide();
        due.answers("8: 1", 1, () -> x.put(0, 0, 0, 1));
        due.answers("8: 98 more", 99, () -> x.put(0, 0, 0, 98));
        due.refuses("8: above 99", Due.NO_ROOM, () -> x.put(0, 0, 0, 1));
        due.answers("8: as it was", 99, () -> x.has(0, 0, 0));
        due.answers("8: 99 at once", 99, () -> x.put(1, 7, 29, 99));
        due.answers("8: the neighbour is empty", 0, () -> x.has(1, 7, 28));
        due.answers("8: not from stock", 0, () -> x.stocked(29));
        due.refuses("8: vehicle 2", Due.UNKNOWN, () -> x.put(2, 0, 0, 0));
        for (int wrong : new int[] {-1, MAX, MIN}) {
            due.refuses("8: vehicle", Due.UNKNOWN, () -> x.put(wrong, 0, 0, 0));
            due.refuses("8: cupboard", Due.UNKNOWN, () -> x.put(0, wrong, 0, 0));
            due.refuses("8: item", Due.UNKNOWN, () -> x.put(0, 0, wrong, 0));
            due.refuses("8: n", Due.RANGE, () -> x.put(0, 0, 0, wrong));
        }
        due.refuses("8: cupboard 8", Due.UNKNOWN, () -> x.put(0, 8, 0, 0));
        due.refuses("8: item 30", Due.UNKNOWN, () -> x.put(0, 0, 30, 0));
        due.refuses("8: n 0", Due.RANGE, () -> x.put(0, 0, 1, 0));
        due.refuses("8: n 100", Due.RANGE, () -> x.put(0, 0, 1, 100));
    }

    private static void p8PutAtTheLimits() {
        LoadChecks x = new LoadChecks();
        x.vehicle(0, 3_000, 2, 1);
        x.item(0, 1, 0);
        x.place(0, 0, 1_000);
        due.answers("8: front 2, rear 1 of 3 grams", 3, () -> x.put(0, 0, 0, 3));
        due.refuses("8: by a third of a gram", Due.STATE, () -> x.put(0, 0, 0, 1));
        due.answers("8: as it was", 3, () -> x.has(0, 0, 0));
        due.answers("8: the front as it was", 2, () -> x.axle(0, 0));
        due.answers("8: the rear as it was", 1, () -> x.axle(0, 2));
        LoadChecks heavy = new LoadChecks();
        heavy.vehicle(0, 1_000, WIDE, WIDE);
        heavy.item(0, 500_000, 0);
        heavy.place(0, 0, 10_000);
        due.answers("8: 20 tonnes on the rear axle", 4, () -> heavy.put(0, 0, 0, 4));
        due.refuses("8: sums above an int", Due.STATE, () -> heavy.put(0, 0, 0, 95));
        due.answers("8: in front of it", 40, () -> heavy.put(0, 1, 0, 40));
        due.answers("8: front 20 - 18 tonnes", 2_000_000, () -> heavy.axle(0, 0));
    }

    private static void p8PutOnAnAxleThatIsBeyond() {
        LoadChecks x = new LoadChecks();
        x.vehicle(0, 1_000, WIDE, WIDE);
        x.item(0, 100, 0);
        x.place(0, 1, 1_000);
        x.place(0, 2, -1_000);
        x.place(0, 3, 2_000);
        x.put(0, 0, 0, 5);
        x.put(0, 1, 0, 5);
        x.limits(0, 499, 600);
        due.answers("8: the front is beyond but bears no more", 6, () -> x.put(0, 1, 0, 1));
        due.refuses("8: the front bears more", Due.STATE, () -> x.put(0, 0, 0, 1));
        due.answers("8: what weighs nothing", 99, () -> x.put(0, 0, 1, 99));
        x.limits(0, 400, 800);
        due.answers("8: the front is relieved and still beyond, the rear is at its limit", 1,
                () -> x.put(0, 3, 0, 1));
        due.answers("8: the front now", 400, () -> x.axle(0, 0));
        x.limits(0, WIDE, 700);
        due.answers("8: the rear is beyond but bears no more", 6, () -> x.put(0, 0, 0, 1));
        x.use(0, 0, 0, 1);
        x.limits(0, 600, 700);
        due.answers("8: the rear is relieved, the front at its limit", 1, () -> x.put(0, 2, 0, 1));
        due.refuses("8: the rear is relieved, the front beyond", Due.STATE, () -> x.put(0, 2, 0, 1));
    }

    private static void p8PutOrderOfRefusals() {
        LoadChecks x = new LoadChecks();
        x.vehicle(0, 1_000, 9_900, 9_900);
        x.item(0, 100, 0);
        x.put(0, 0, 0, 99);
        due.refuses("8: state before room", Due.STATE, () -> x.put(0, 0, 0, 1));
        x.limits(0, 10_000, 0);
        due.refuses("8: room alone", Due.NO_ROOM, () -> x.put(0, 0, 0, 1));
        due.refuses("8: state by all of them", Due.STATE, () -> x.put(0, 0, 0, 2));
        due.refuses("8: range before state", Due.RANGE, () -> x.put(0, 0, 0, 100));
    }

    private static void p9Use() {
        LoadChecks x = wide();
        x.item(0, 100, 0);
        due.refuses("9: none there", Due.STATE, () -> x.use(0, 0, 0, 1));
        x.put(0, 0, 0, 10);
        due.refuses("9: not so many", Due.STATE, () -> x.use(0, 0, 0, 11));
        due.answers("9: as it was", 10, () -> x.has(0, 0, 0));
        due.refuses("9: of another vehicle", Due.STATE, () -> x.use(1, 0, 0, 1));
        due.answers("9: some", 7, () -> x.use(0, 0, 0, 3));
        due.answers("9: they weigh no more", 700, () -> x.axle(0, 0));
        due.answers("9: all", 0, () -> x.use(0, 0, 0, 7));
        due.answers("9: not into stock", 0, () -> x.stocked(0));
        due.refuses("9: vehicle 2", Due.UNKNOWN, () -> x.use(2, 0, 0, 0));
        for (int wrong : new int[] {-1, MAX, MIN}) {
            due.refuses("9: vehicle", Due.UNKNOWN, () -> x.use(wrong, 0, 0, 0));
            due.refuses("9: cupboard", Due.UNKNOWN, () -> x.use(0, wrong, 0, 0));
            due.refuses("9: item", Due.UNKNOWN, () -> x.use(0, 0, wrong, 0));
            due.refuses("9: n", Due.RANGE, () -> x.use(0, 0, 0, wrong));
        }
        due.refuses("9: cupboard 8", Due.UNKNOWN, () -> x.use(0, 8, 0, 1));
        due.refuses("9: item 30", Due.UNKNOWN, () -> x.use(0, 0, 30, 1));
        due.refuses("9: n 0", Due.RANGE, () -> x.use(0, 0, 0, 0));
        due.refuses("9: n 100", Due.RANGE, () -> x.use(0, 0, 0, 100));
        x.put(0, 7, 29, 99);
        due.answers("9: 99", 0, () -> x.use(0, 7, 29, 99));
        useWhereTheOtherAxleGoesBeyond();
    }

    private static void useWhereTheOtherAxleGoesBeyond() {
        LoadChecks x = new LoadChecks();
        x.vehicle(0, 1_000, 0, WIDE);
        x.item(0, 100, 0);
        x.place(0, 1, 2_000);
        x.put(0, 1, 0, 1);
        x.put(0, 0, 0, 1);
        due.answers("9: the axles are not looked at", 0, () -> x.use(0, 1, 0, 1));
        due.answers("9: the front is beyond", 100, () -> x.axle(0, 0));
    }

    private static void p10Replace() {
        LoadChecks x = wide();
        due.refuses("10: vehicle 2", Due.UNKNOWN, () -> x.replace(2));
        due.refuses("10: vehicle -1", Due.UNKNOWN, () -> x.replace(-1));
        due.answers("10: nothing is missing", 0, () -> x.replace(0));
        x.item(0, 100, 0);
        x.list(0, 2, 0, 4);
        x.list(0, 1, 0, 5);
        x.list(0, 1, 29, 2);
        x.list(1, 0, 0, 50);
        due.answers("10: the stock is empty", 0, () -> x.replace(0));
        x.stock(0, 7);
        x.stock(29, 99);
        x.put(0, 1, 0, 1);
        due.answers("10: 4 and 2 and 3", 9, () -> x.replace(0));
        due.answers("10: cupboard 1 first", 5, () -> x.has(0, 1, 0));
        due.answers("10: what the stock still had", 3, () -> x.has(0, 2, 0));
        due.answers("10: no more than is missing", 2, () -> x.has(0, 1, 29));
        due.answers("10: not the other kind's", 0, () -> x.has(0, 0, 0));
        due.answers("10: from stock", 0, () -> x.stocked(0));
        due.answers("10: the rest in stock", 97, () -> x.stocked(29));
        due.answers("10: they weigh", 800, () -> x.axle(0, 0));
        due.answers("10: again", 0, () -> x.replace(0));
        x.put(1, 1, 29, 5);
        due.answers("10: more than needed stays", 0, () -> x.replace(1));
        due.answers("10: as it was", 5, () -> x.has(1, 1, 29));
        due.refuses("10: no rows", Due.UNKNOWN, () -> x.row(0, 0));
        x.list(0, 0, 0, 1);
        x.list(0, 7, 29, 1);
        x.stock(0, 1);
        due.answers("10: the first and the last of all", 2, () -> x.replace(0));
        due.answers("10: the first", 1, () -> x.has(0, 0, 0));
        due.answers("10: the last", 1, () -> x.has(0, 7, 29));
    }

    private static void p10ReplaceLeavesOut() {
        LoadChecks x = new LoadChecks();
        x.vehicle(0, 1_000, 1_000, WIDE);
        x.item(0, 300, 0);
        x.item(1, 200, 0);
        x.item(2, 100, 0);
        x.list(0, 0, 0, 4);
        x.list(0, 0, 1, 3);
        x.list(0, 0, 2, 9);
        x.stock(0, 9);
        x.stock(1, 9);
        x.stock(2, 4);
        due.answers("10: 4 of 300 g are left out whole; then 3 of 200 g; then the 4 in stock", 7, () -> x.replace(0));
        due.answers("10: none of it", 0, () -> x.has(0, 0, 0));
        due.answers("10: all 3", 3, () -> x.has(0, 0, 1));
        due.answers("10: the 4", 4, () -> x.has(0, 0, 2));
        due.answers("10: its stock stays", 9, () -> x.stocked(0));
        due.answers("10: at the limit", 1_000, () -> x.axle(0, 0));
        x.limits(0, 0, WIDE);
        x.place(0, 1, 1_000);
        x.place(0, 2, 1_500);
        x.list(0, 1, 0, 1);
        x.list(0, 2, 0, 2);
        due.answers("10: an axle that is beyond but bears no more", 3, () -> x.replace(0));
    }

    private static void p11Swap() {
        LoadChecks x = new LoadChecks();
        x.vehicle(0, 1_000, WIDE, WIDE);
        x.vehicle(1, 2_000, WIDE, WIDE);
        x.item(3, 100, 0);
        x.place(0, 4, 500);
        x.place(1, 4, 1_500);
        x.put(0, 4, 3, 10);
        due.passes("11: 4 of 10", () -> x.swap(0, 1, 4, 3, 4));
        due.answers("11: the giver's", 6, () -> x.has(0, 4, 3));
        due.answers("11: the getter's", 4, () -> x.has(1, 4, 3));
        due.answers("11: the giver's rear", 300, () -> x.axle(0, 2));
        due.answers("11: the giver's front", 300, () -> x.axle(0, 0));
        due.answers("11: the getter's rear", 300, () -> x.axle(1, 2));
        due.answers("11: the getter's front", 100, () -> x.axle(1, 0));
        x.ends(0, 3, 0);
        x.battery(0, 3, 1);
        x.item(3, 100, 50);
        x.swap(0, 1, 4, 3, 6);
        x.list(1, 4, 3, 10);
        x.check(1);
        due.answers("11: end and battery stay with the vehicle", 0, () -> x.ready(1));
        due.answers("11: all went", 0, () -> x.has(0, 4, 3));
        x.put(0, 7, 29, 99);
        due.passes("11: 99", () -> x.swap(0, 1, 7, 29, 99));
        due.passes("11: back", () -> x.swap(1, 0, 7, 29, 99));
    }

    private static void p11SwapRefusals() {
        LoadChecks x = wide();
        x.item(0, 100, 0);
        x.put(0, 0, 0, 10);
        x.put(1, 0, 0, 90);
        due.refuses("11: one vehicle", Due.UNKNOWN, () -> x.swap(0, 0, 0, 0, 0));
        for (int wrong : new int[] {2, -1, MAX, MIN}) {
            due.refuses("11: from " + wrong, Due.UNKNOWN, () -> x.swap(wrong, 0, 0, 0, 0));
            due.refuses("11: to " + wrong, Due.UNKNOWN, () -> x.swap(0, wrong, 0, 0, 0));
        }
        for (int wrong : new int[] {30, -1, MAX, MIN}) {
            due.refuses("11: cupboard " + wrong, Due.UNKNOWN, () -> x.swap(0, 1, wrong, 0, 0));
            due.refuses("11: item " + wrong, Due.UNKNOWN, () -> x.swap(0, 1, 0, wrong, 0));
        }
        due.refuses("11: cupboard 8", Due.UNKNOWN, () -> x.swap(0, 1, 8, 0, 0));
        for (int n : new int[] {0, 100, -1, MAX, MIN}) {
            due.refuses("11: n " + n, Due.RANGE, () -> x.swap(0, 1, 0, 0, n));
        }
        due.refuses("11: not so many", Due.STATE, () -> x.swap(0, 1, 0, 0, 11));
        due.refuses("11: above 99", Due.NO_ROOM, () -> x.swap(0, 1, 0, 0, 10));
        x.limits(1, 9_999, 0);
        due.refuses("11: the axles before the room", Due.STATE, () -> x.swap(0, 1, 0, 0, 10));
        x.limits(1, 9_899, 0);
        due.refuses("11: the axles", Due.STATE, () -> x.swap(0, 1, 0, 0, 9));
        due.answers("11: the giver's as it was", 10, () -> x.has(0, 0, 0));
        due.answers("11: the getter's as it was", 90, () -> x.has(1, 0, 0));
        due.refuses("11: no rows", Due.UNKNOWN, () -> x.row(0, 0));
        x.limits(1, 9_900, 0);
        x.limits(0, 0, 0);
        due.passes("11: at the limit, the giver beyond", () -> x.swap(0, 1, 0, 0, 9));
        swapWhereTheGiverGoesBeyond();
    }

    private static void swapWhereTheGiverGoesBeyond() {
        LoadChecks x = new LoadChecks();
        x.vehicle(0, 1_000, 0, WIDE);
        x.vehicle(0, 1_000, WIDE, WIDE);
        x.item(0, 100, 0);
        x.place(0, 1, 2_000);
        x.put(0, 1, 0, 1);
        x.put(0, 0, 0, 1);
        due.passes("11: the giver's axles are not looked at", () -> x.swap(0, 1, 1, 0, 1));
        due.answers("11: the giver's front is beyond", 100, () -> x.axle(0, 0));
    }

    private static void p12Ends() {
        LoadChecks x = wide();
        x.list(0, 2, 5, 1);
        x.put(0, 2, 5, 1);
        x.check(0);
        for (int item : new int[] {-1, 30, MAX, MIN}) {
            due.refuses("12: item " + item, Due.UNKNOWN, () -> x.ends(0, item, -2));
        }
        due.refuses("12: vehicle 2", Due.UNKNOWN, () -> x.ends(2, 0, -2));
        due.refuses("12: vehicle -1", Due.UNKNOWN, () -> x.ends(-1, 0, -2));
        due.answers("12: none at first", 0, () -> x.ready(0));
        x.ends(0, 5, 0);
        due.answers("12: past from that day on", 4, () -> x.ready(0));
        for (int day : new int[] {-2, 10_000, MAX, MIN}) {
            due.refuses("12: day " + day, Due.RANGE, () -> x.ends(0, 5, day));
        }
        due.answers("12: as it was", 4, () -> x.ready(0));
        due.passes("12: tomorrow", () -> x.ends(0, 5, 1));
        due.answers("12: not past yet", 0, () -> x.ready(0));
        x.now(1, 0);
        x.check(0);
        due.answers("12: past now", 4, () -> x.ready(0));
        due.passes("12: none", () -> x.ends(0, 5, -1));
        due.answers("12: never past", 0, () -> x.ready(0));
        due.passes("12: the last day", () -> x.ends(0, 5, 9_999));
        x.ends(0, 4, 0);
        due.answers("12: an item that it does not need", 0, () -> x.ready(0));
        x.ends(1, 5, 0);
        due.answers("12: another vehicle's", 0, () -> x.ready(0));
        x.now(9_999, 2);
        x.check(0);
        due.answers("12: on the last day", 4, () -> x.ready(0));
        x.list(0, 2, 5, 0);
        x.list(0, 0, 0, 1);
        x.put(0, 0, 0, 1);
        x.ends(0, 0, 1);
        due.answers("12: of the first cupboard's first item", 4, () -> x.ready(0));
        x.list(0, 0, 0, 0);
        x.list(0, 7, 29, 1);
        x.put(0, 7, 29, 1);
        x.ends(0, 29, 1);
        due.answers("12: of the last cupboard's last item", 4, () -> x.ready(0));
    }

    private static void p13Battery() {
        LoadChecks x = wide();
        x.item(29, 0, 100);
        x.list(0, 0, 29, 1);
        x.put(0, 0, 29, 1);
        x.check(0);
        for (int item : new int[] {-1, 30, MAX, MIN}) {
            due.refuses("13: item " + item, Due.UNKNOWN, () -> x.battery(0, item, -1));
        }
        due.refuses("13: vehicle 2", Due.UNKNOWN, () -> x.battery(2, 0, -1));
        due.refuses("13: vehicle -1", Due.UNKNOWN, () -> x.battery(-1, 0, -1));
        due.answers("13: 100 at first", 0, () -> x.ready(0));
        x.battery(0, 29, 99);
        due.answers("13: less than the least", 5, () -> x.ready(0));
        for (int percent : new int[] {-1, 101, MAX, MIN}) {
            due.refuses("13: percent " + percent, Due.RANGE, () -> x.battery(0, 29, percent));
        }
        due.answers("13: as it was", 5, () -> x.ready(0));
        due.passes("13: 100", () -> x.battery(0, 29, 100));
        due.answers("13: full", 0, () -> x.ready(0));
        due.passes("13: 0", () -> x.battery(0, 29, 0));
        x.item(29, 0, 0);
        due.answers("13: as much as the least", 0, () -> x.ready(0));
        x.item(28, 0, 100);
        x.battery(0, 28, 0);
        due.answers("13: an item that it does not need", 0, () -> x.ready(0));
        x.item(0, 0, 1);
        x.battery(0, 0, 0);
        x.list(0, 0, 0, 1);
        x.put(0, 0, 0, 1);
        due.answers("13: of the first cupboard's first item", 5, () -> x.ready(0));
        x.list(0, 0, 0, 0);
        x.list(0, 7, 28, 1);
        x.put(0, 7, 28, 1);
        due.answers("13: of the last cupboard", 5, () -> x.ready(0));
    }

    private static void p14Seal() {
        LoadChecks x = wide();
        x.check(0);
        x.check(1);
        for (int cupboard : new int[] {-1, 8, MAX, MIN}) {
            due.refuses("14: cupboard " + cupboard, Due.UNKNOWN, () -> x.seal(0, cupboard, true));
        }
        due.refuses("14: vehicle 2", Due.UNKNOWN, () -> x.seal(2, 0, true));
        due.refuses("14: vehicle -1", Due.UNKNOWN, () -> x.seal(-1, 0, true));
        for (int cupboard = 0; cupboard < 8; cupboard++) {
            int asked = cupboard;
            due.refuses("14: whole at first", Due.STATE, () -> x.seal(0, asked, true));
            due.passes("14: breaks", () -> x.seal(0, asked, false));
            due.refuses("14: broken already", Due.STATE, () -> x.seal(0, asked, false));
            due.answers("14: a seal is broken", 3, () -> x.ready(0));
            due.answers("14: not the other vehicle's", 0, () -> x.ready(1));
            due.passes("14: whole again", () -> x.seal(0, asked, true));
            due.answers("14: all are whole", 0, () -> x.ready(0));
        }
        x.seal(0, 0, false);
        due.passes("14: use of what is behind a broken seal", () -> x.put(0, 0, 0, 1));
    }

    private static void p15Check() {
        LoadChecks x = wide();
        due.refuses("15: vehicle 2", Due.UNKNOWN, () -> x.check(2));
        due.refuses("15: vehicle -1", Due.UNKNOWN, () -> x.check(-1));
        due.answers("15: not checked at first", 1, () -> x.ready(0));
        due.passes("15: check", () -> x.check(0));
        due.passes("15: check again", () -> x.check(0));
        due.answers("15: checked", 0, () -> x.ready(0));
        due.answers("15: the other is not", 1, () -> x.ready(1));
        x.now(0, 1);
        due.answers("15: another shift", 1, () -> x.ready(0));
        x.check(0);
        x.now(1, 1);
        due.answers("15: the same shift of another day", 1, () -> x.ready(0));
        x.check(0);
        due.answers("15: checked in it", 0, () -> x.ready(0));
    }

    private static void p16Now() {
        LoadChecks x = wide();
        x.check(0);
        for (int day : new int[] {-1, 10_000, MAX, MIN}) {
            due.refuses("16: day " + day, Due.RANGE, () -> x.now(day, 0));
        }
        for (int shift : new int[] {-1, 3, MAX, MIN}) {
            due.refuses("16: shift " + shift, Due.RANGE, () -> x.now(5, shift));
            due.refuses("16: shift today " + shift, Due.RANGE, () -> x.now(0, shift));
        }
        due.passes("16: 0, 0 is the present at first", () -> x.now(0, 0));
        due.answers("16: nothing changed", 0, () -> x.ready(0));
        due.passes("16: later", () -> x.now(0, 2));
        due.refuses("16: earlier shift", Due.RANGE, () -> x.now(0, 1));
        due.passes("16: an earlier shift of a later day", () -> x.now(1, 0));
        due.refuses("16: a later shift of an earlier day", Due.RANGE, () -> x.now(0, 2));
        x.check(0);
        due.refuses("16: back", Due.RANGE, () -> x.now(0, 0));
        due.answers("16: still the same shift", 0, () -> x.ready(0));
        due.passes("16: the last", () -> x.now(9_999, 2));
        due.passes("16: the last again", () -> x.now(9_999, 2));
        due.refuses("16: shift 1 then", Due.RANGE, () -> x.now(9_999, 1));
    }

    private static void p17Ready() {
        LoadChecks x = new LoadChecks();
        due.refuses("17: vehicle 0", Due.UNKNOWN, () -> x.ready(0));
        x.vehicle(0, 1_000, 0, 0);
        due.refuses("17: vehicle -1", Due.UNKNOWN, () -> x.ready(-1));
        x.check(0);
        due.answers("17: nothing needed, nothing borne", 0, () -> x.ready(0));
        x.limits(0, 100, 100);
        x.item(0, 100, 0);
        x.put(0, 0, 0, 1);
        due.answers("17: the front at its limit", 0, () -> x.ready(0));
        x.limits(0, 99, 100);
        due.answers("17: the front beyond", 6, () -> x.ready(0));
        x.use(0, 0, 0, 1);
        x.place(0, 0, 1_000);
        x.put(0, 0, 0, 1);
        due.answers("17: the rear at its limit", 0, () -> x.ready(0));
        x.limits(0, 100, 99);
        due.answers("17: the rear beyond", 6, () -> x.ready(0));
        x.limits(0, 0, WIDE);
        x.place(0, 1, 2_000);
        x.put(0, 1, 0, 1);
        due.answers("17: the front below 0", 0, () -> x.ready(0));
    }

    private static void p17ReadyFirstReason() {
        LoadChecks x = wide();
        x.item(9, 100, 60);
        x.list(0, 6, 9, 2);
        x.put(0, 6, 9, 1);
        x.limits(0, 0, 0);
        x.battery(0, 9, 59);
        x.ends(0, 9, 0);
        x.seal(0, 7, false);
        due.answers("17: not checked", 1, () -> x.ready(0));
        x.check(0);
        due.answers("17: missing", 2, () -> x.ready(0));
        x.list(0, 6, 9, 1);
        due.answers("17: seal", 3, () -> x.ready(0));
        x.seal(0, 7, true);
        due.answers("17: past", 4, () -> x.ready(0));
        x.ends(0, 9, -1);
        due.answers("17: battery", 5, () -> x.ready(0));
        x.battery(0, 9, 60);
        due.answers("17: axle", 6, () -> x.ready(0));
        x.limits(0, 100, 0);
        due.answers("17: ready", 0, () -> x.ready(0));
        x.ends(0, 9, 0);
        x.battery(0, 9, 0);
        x.list(0, 6, 9, 0);
        due.answers("17: what it has and does not need", 0, () -> x.ready(0));
    }

    private static void p18Missing() {
        LoadChecks x = wide();
        due.refuses("18: vehicle 2", Due.UNKNOWN, () -> x.missing(2, -1));
        due.refuses("18: vehicle -1", Due.UNKNOWN, () -> x.missing(-1, -1));
        due.refuses("18: i -1", Due.RANGE, () -> x.missing(0, -1));
        due.refuses("18: i least", Due.RANGE, () -> x.missing(0, MIN));
        due.answers("18: none", -1, () -> x.missing(0, 0));
        x.list(0, 7, 29, 99);
        x.list(0, 0, 29, 3);
        x.list(0, 1, 0, 2);
        x.list(0, 1, 2, 5);
        x.list(0, 1, 3, 5);
        x.put(0, 1, 2, 4);
        x.put(0, 1, 3, 6);
        due.answers("18: first", 2_903, () -> x.missing(0, 0));
        due.answers("18: by cupboards", 10_002, () -> x.missing(0, 1));
        due.answers("18: then items, by how many", 10_201, () -> x.missing(0, 2));
        due.answers("18: last", 72_999, () -> x.missing(0, 3));
        due.answers("18: not so many", -1, () -> x.missing(0, 4));
        due.answers("18: far from so many", -1, () -> x.missing(0, MAX));
        due.answers("18: the other vehicle misses it all", 10_305, () -> x.missing(1, 3));
        x.put(0, 1, 2, 1);
        due.answers("18: no gap", 72_999, () -> x.missing(0, 2));
        for (int cell = 0; cell < 240; cell++) {
            x.list(0, cell / 30, cell % 30, 99);
        }
        due.answers("18: the first of 240", 99, () -> x.missing(1, 0));
        due.answers("18: the last of 240", 72_999, () -> x.missing(1, 239));
        due.answers("18: no 241st", -1, () -> x.missing(1, 240));
    }

    private static void p19Share() {
        LoadChecks x = wide();
        due.refuses("19: vehicle 2", Due.UNKNOWN, () -> x.share(2));
        due.refuses("19: vehicle -1", Due.UNKNOWN, () -> x.share(-1));
        due.refuses("19: nothing is needed", Due.ARITHMETIC, () -> x.share(0));
        x.put(0, 0, 0, 50);
        due.refuses("19: what it has is not needed", Due.ARITHMETIC, () -> x.share(0));
        x.list(0, 0, 0, 1);
        due.answers("19: at most as many as needed", 1_000, () -> x.share(0));
        x.list(0, 7, 29, 2);
        due.answers("19: a third, rounded down", 333, () -> x.share(0));
        x.put(0, 7, 29, 1);
        due.answers("19: two thirds, rounded down", 666, () -> x.share(0));
        due.answers("19: none", 0, () -> x.share(1));
        x.put(0, 7, 28, 9);
        due.answers("19: what is not needed does not count", 666, () -> x.share(0));
        for (int cell = 0; cell < 240; cell++) {
            x.list(1, cell / 30, cell % 30, 99);
        }
        int full = x.vehicle(1, 4_000, WIDE, WIDE);
        for (int cell = 0; cell < 239; cell++) {
            x.put(full, cell / 30, cell % 30, 99);
        }
        due.answers("19: 239 of 240", 995, () -> x.share(full));
        x.list(0, 0, 0, 0);
        x.list(0, 7, 29, 0);
        due.refuses("19: nothing any more", Due.ARITHMETIC, () -> x.share(0));
    }

    private static void axles(String text, LoadChecks x, int vehicle, long... want) {
        for (int what = 0; what < 4; what++) {
            int asked = what;
            due.answers("20: " + text + ", what " + what, want[what], () -> x.axle(vehicle, asked));
        }
    }

    private static void p20Axle() {
        LoadChecks x = new LoadChecks();
        due.refuses("20: vehicle 0", Due.UNKNOWN, () -> x.axle(0, 0));
        x.vehicle(0, 1_500, WIDE, WIDE);
        for (int what : new int[] {-1, 4, MAX, MIN}) {
            due.refuses("20: what " + what, Due.UNKNOWN, () -> x.axle(0, what));
        }
        due.refuses("20: vehicle -1", Due.UNKNOWN, () -> x.axle(-1, 0));
        axles("nothing", x, 0, 0, 1, 0, 1);
        x.item(0, 7, 0);
        x.place(0, 0, 1_000);
        x.put(0, 0, 0, 1);
        axles("7 grams at two thirds", x, 0, 7, 3, 14, 3);
        x.place(0, 1, -1);
        x.put(0, 1, 0, 1);
        axles("and 7 just before the front axle", x, 0, 4_669, 500, 2_331, 500);
        x.use(0, 0, 0, 1);
        axles("these alone", x, 0, 10_507, 1_500, -7, 1_500);
        x.use(0, 1, 0, 1);
        x.place(0, 2, 1_501);
        x.put(0, 2, 0, 3);
        axles("just behind the rear axle", x, 0, -7, 500, 10_507, 500);
        mostOnTheAxles();
    }

    private static void mostOnTheAxles() {
        LoadChecks x = new LoadChecks();
        x.vehicle(0, 7_999, WIDE, WIDE);
        x.item(0, 500_000, 0);
        x.place(0, 0, 7_998);
        x.put(0, 0, 0, 40);
        axles("20 tonnes, a prime fraction", x, 0, 20_000_000L, 7_999L, 159_960_000_000L, 7_999L);
        x.limits(0, 0, 0);
        due.answers("20: beyond by them", 6, () -> {
            x.check(0);
            return x.ready(0);
        });
    }

    private static void rowIs(String text, LoadChecks x, int i, int vehicle, int item, int count) {
        due.answers("21: vehicle of " + text, vehicle, () -> x.row(i, 0));
        due.answers("21: item of " + text, item, () -> x.row(i, 1));
        due.answers("21: count of " + text, count, () -> x.row(i, 2));
    }

    private static void p21Row() {
        LoadChecks x = wide();
        x.put(0, 0, 29, 99);
        due.refuses("21: no row at first", Due.UNKNOWN, () -> x.row(0, 0));
        x.swap(0, 1, 0, 29, 99);
        rowIs("the giver", x, 0, 0, 29, -99);
        rowIs("the getter", x, 1, 1, 29, 99);
        for (int wrong : new int[] {2, -1, MAX, MIN}) {
            due.refuses("21: row " + wrong, Due.UNKNOWN, () -> x.row(wrong, 0));
        }
        for (int wrong : new int[] {3, -1, MAX, MIN}) {
            due.refuses("21: what " + wrong, Due.UNKNOWN, () -> x.row(0, wrong));
        }
        for (int n = 1; n < 50; n++) {
            x.swap(1, 0, 0, 29, 1);
        }
        rowIs("the first of 100", x, 0, 0, 29, -99);
        rowIs("the last of 100", x, 99, 0, 29, 1);
        due.refuses("21: no row 100", Due.UNKNOWN, () -> x.row(100, 0));
        x.put(0, 7, 3, 5);
        x.swap(0, 1, 7, 3, 5);
        due.refuses("21: row 0 is kept no more", Due.UNKNOWN, () -> x.row(0, 0));
        due.refuses("21: row 1 is kept no more", Due.UNKNOWN, () -> x.row(1, 0));
        rowIs("the oldest kept", x, 2, 1, 29, -1);
        rowIs("the new giver", x, 100, 0, 3, -5);
        rowIs("the new getter", x, 101, 1, 3, 5);
        for (int round = 0; round < 150; round++) {
            x.swap(round % 2 == 0 ? 1 : 0, round % 2 == 0 ? 0 : 1, 7, 3, 2);
        }
        rowIs("the oldest of 402", x, 302, 1, 3, -2);
        rowIs("the latest of 402", x, 401, 1, 3, 2);
        due.refuses("21: row 301 is kept no more", Due.UNKNOWN, () -> x.row(301, 0));
        due.refuses("21: no row 402", Due.UNKNOWN, () -> x.row(402, 0));
    }

    private static void p22Has() {
        LoadChecks x = wide();
        x.put(1, 7, 0, 3);
        x.put(1, 6, 29, 4);
        x.put(0, 7, 29, 5);
        due.answers("22: vehicle 1, cupboard 7, item 0", 3, () -> x.has(1, 7, 0));
        due.answers("22: vehicle 1, cupboard 6, item 29", 4, () -> x.has(1, 6, 29));
        due.answers("22: vehicle 0, cupboard 7, item 29", 5, () -> x.has(0, 7, 29));
        due.answers("22: none", 0, () -> x.has(1, 0, 0));
        for (int wrong : new int[] {-1, MAX, MIN}) {
            due.refuses("22: vehicle", Due.UNKNOWN, () -> x.has(wrong, 0, 0));
            due.refuses("22: cupboard", Due.UNKNOWN, () -> x.has(0, wrong, 0));
            due.refuses("22: item", Due.UNKNOWN, () -> x.has(0, 0, wrong));
        }
        due.refuses("22: vehicle 2", Due.UNKNOWN, () -> x.has(2, 0, 0));
        due.refuses("22: cupboard 8", Due.UNKNOWN, () -> x.has(0, 8, 0));
        due.refuses("22: item 30", Due.UNKNOWN, () -> x.has(0, 0, 30));
    }

    private static void p23Stocked() {
        LoadChecks x = wide();
        for (int item : new int[] {-1, 30, MAX, MIN}) {
            due.refuses("23: item " + item, Due.UNKNOWN, () -> x.stocked(item));
        }
        due.answers("23: none at first", 0, () -> x.stocked(29));
        x.stock(29, 6);
        due.answers("23: 6", 6, () -> x.stocked(29));
        due.answers("23: of another", 0, () -> x.stocked(28));
        x.list(0, 0, 29, 4);
        x.replace(1);
        due.answers("23: less what replaces", 2, () -> x.stocked(29));
    }
}
