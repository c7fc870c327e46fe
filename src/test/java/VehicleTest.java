/** Promises 1 to 4: a new object, vehicle, limits, place. */
public final class VehicleTest {
    private static final int WIDE = Make.WIDE;

    public static void main(String[] args) {
        Cases.run(VehicleTest.class, 1, 4);
    }

    static void p01_noVehicles(Due due) {
        LoadChecks x = new LoadChecks();
        due.refuses(x, Due.UNKNOWN, () -> x.limits(0, 0, 0));
        due.refuses(x, Due.UNKNOWN, () -> x.place(0, 0, 0));
        due.refuses(x, Due.UNKNOWN, () -> x.put(0, 0, 0, 1));
        due.refuses(x, Due.UNKNOWN, () -> x.use(0, 0, 0, 1));
        due.refuses(x, Due.UNKNOWN, () -> x.replace(0));
        due.refuses(x, Due.UNKNOWN, () -> x.swap(0, 1, 0, 0, 1));
        due.refuses(x, Due.UNKNOWN, () -> x.ends(0, 0, 0));
        due.refuses(x, Due.UNKNOWN, () -> x.battery(0, 0, 0));
        due.refuses(x, Due.UNKNOWN, () -> x.seal(0, 0, false));
        due.refuses(x, Due.UNKNOWN, () -> x.check(0));
        due.refuses(x, Due.UNKNOWN, () -> x.ready(0));
        due.refuses(x, Due.UNKNOWN, () -> x.missing(0, 0));
        due.refuses(x, Due.UNKNOWN, () -> x.share(0));
        due.refuses(x, Due.UNKNOWN, () -> x.axle(0, 0));
        due.refuses(x, Due.UNKNOWN, () -> x.has(0, 0, 0));
    }

    static void p01_noRows(Due due) {
        LoadChecks x = new LoadChecks();
        due.refuses(x, Due.UNKNOWN, () -> x.row(0, 0));
    }

    static void p01_stockIsEmpty(Due due) {
        LoadChecks x = new LoadChecks();
        for (int i = 0; i < 30; i++) {
            int item = i;
            due.answers(0, () -> x.stocked(item));
        }
    }

    static void p01_presentIsShift0OfDay0(Due due) {
        LoadChecks x = Make.ready();
        due.passes(() -> x.now(0, 0));
        due.answers(0, () -> x.ready(0));
        x.ends(0, 5, 0);
        due.answers(4, () -> x.ready(0));
        x.ends(0, 5, 1);
        due.answers(0, () -> x.ready(0));
    }

    static void p01_noKindNeedsAnything(Due due) {
        LoadChecks x = new LoadChecks();
        for (int kind = 0; kind < 6; kind++) {
            int vehicle = x.vehicle(kind, 1_000, 0, 0);
            due.answers(-1, () -> x.missing(vehicle, 0));
            due.refuses(x, Due.ARITHMETIC, () -> x.share(vehicle));
        }
    }

    static void p01_itemsWeighNothing(Due due) {
        LoadChecks x = new LoadChecks();
        x.vehicle(0, 1_000, 0, 0);
        for (int i = 0; i < 30; i++) {
            int item = i;
            due.answers(99, () -> x.put(0, 0, item, 99));
        }
        due.answers(0, () -> x.axle(0, 0));
    }

    static void p01_itemsNeedNoBattery(Due due) {
        LoadChecks x = Make.wide(1);
        x.check(0);
        for (int i = 0; i < 30; i++) {
            x.list(0, 0, i, 1);
            x.put(0, 0, i, 1);
            x.battery(0, i, 0);
        }
        due.answers(0, () -> x.ready(0));
    }

    static void p01_objectsShareNothing(Due due) {
        LoadChecks x = new LoadChecks();
        LoadChecks other = new LoadChecks();
        String before = State.of(other);
        x.vehicle(0, 1_000, WIDE, WIDE);
        x.vehicle(0, 1_000, WIDE, WIDE);
        x.item(0, 5, 5);
        x.list(0, 0, 0, 5);
        x.stock(0, 5);
        x.replace(0);
        x.swap(0, 1, 0, 0, 5);
        x.now(5, 2);
        x.check(0);
        x.seal(0, 0, false);
        x.ends(0, 0, 5);
        x.battery(0, 0, 5);
        due.holds("the other object is as it was", State.of(other).equals(before));
    }

    static void p02_numbersGoUpFrom0(Due due) {
        LoadChecks x = new LoadChecks();
        for (int i = 0; i < 16; i++) {
            int number = i;
            due.refuses(x, Due.UNKNOWN, () -> x.check(number));
            due.answers(number, () -> x.vehicle(0, 1_000, 0, 0));
            due.passes(() -> x.check(number));
        }
    }

    static void p02_kinds0To5(Due due) {
        LoadChecks x = new LoadChecks();
        x.list(0, 0, 0, 10);
        x.list(5, 0, 0, 15);
        due.refusesOutside(0, 5, x, Due.UNKNOWN, kind -> x.vehicle(kind, 1_000, 0, 0));
        due.answers(0, () -> x.vehicle(0, 1_000, 0, 0));
        due.answers(1, () -> x.vehicle(5, 1_000, 0, 0));
        due.answers(10, () -> x.missing(0, 0));
        due.answers(15, () -> x.missing(1, 0));
    }

    static void p02_wheelbase1000To8000(Due due) {
        LoadChecks x = new LoadChecks();
        x.item(0, 1, 0);
        due.refusesOutside(1_000, 8_000, x, Due.RANGE, wheelbase -> x.vehicle(0, wheelbase, WIDE, WIDE));
        due.refuses(x, Due.RANGE, () -> x.vehicle(0, 0, WIDE, WIDE));
        due.refuses(x, Due.RANGE, () -> x.vehicle(0, -1_000, WIDE, WIDE));
        due.answers(0, () -> x.vehicle(0, 1_000, WIDE, WIDE));
        due.answers(1, () -> x.vehicle(0, 8_000, WIDE, WIDE));
        for (int vehicle = 0; vehicle < 2; vehicle++) {
            x.place(vehicle, 0, 1);
            x.put(vehicle, 0, 0, 1);
        }
        due.answers(1_000, () -> x.axle(0, 3));
        due.answers(8_000, () -> x.axle(1, 3));
    }

    static void p02_frontLimit0To20000000(Due due) {
        LoadChecks x = new LoadChecks();
        x.item(0, 1, 0);
        x.item(1, 500_000, 0);
        due.refusesOutside(0, WIDE, x, Due.RANGE, front -> x.vehicle(0, 1_000, front, 0));
        due.answers(0, () -> x.vehicle(0, 1_000, 0, WIDE));
        due.answers(1, () -> x.vehicle(0, 1_000, WIDE, 0));
        due.refuses(x, Due.STATE, () -> x.put(0, 0, 0, 1));
        due.answers(40, () -> x.put(1, 0, 1, 40));
        due.refuses(x, Due.STATE, () -> x.put(1, 0, 0, 1));
    }

    static void p02_rearLimit0To20000000(Due due) {
        LoadChecks x = new LoadChecks();
        x.item(0, 1, 0);
        x.item(1, 500_000, 0);
        due.refusesOutside(0, WIDE, x, Due.RANGE, rear -> x.vehicle(0, 1_000, 0, rear));
        due.answers(0, () -> x.vehicle(0, 1_000, WIDE, 0));
        due.answers(1, () -> x.vehicle(0, 1_000, 0, WIDE));
        x.place(0, 0, 1_000);
        x.place(1, 0, 1_000);
        due.refuses(x, Due.STATE, () -> x.put(0, 0, 0, 1));
        due.answers(40, () -> x.put(1, 0, 1, 40));
        due.refuses(x, Due.STATE, () -> x.put(1, 0, 0, 1));
    }

    static void p02_noRoomAfter16(Due due) {
        LoadChecks x = Make.wide(15);
        due.answers(15, () -> x.vehicle(0, 1_000, 0, 0));
        due.refuses(x, Due.NO_ROOM, () -> x.vehicle(0, 1_000, 0, 0));
        due.passes(() -> x.check(15));
        due.refuses(x, Due.UNKNOWN, () -> x.check(16));
    }

    static void p02_refusedTakesNoNumber(Due due) {
        LoadChecks x = new LoadChecks();
        due.refuses(x, Due.UNKNOWN, () -> x.vehicle(6, 1_000, 0, 0));
        due.refuses(x, Due.RANGE, () -> x.vehicle(0, 999, 0, 0));
        due.answers(0, () -> x.vehicle(0, 1_000, 0, 0));
    }

    static void p02_unknownBeforeRange(Due due) {
        LoadChecks x = new LoadChecks();
        due.refuses(x, Due.UNKNOWN, () -> x.vehicle(-1, 999, 0, 0));
        due.refuses(x, Due.UNKNOWN, () -> x.vehicle(6, 1_000, -1, 0));
        due.refuses(x, Due.UNKNOWN, () -> x.vehicle(6, 1_000, 0, WIDE + 1));
    }

    static void p02_unknownBeforeNoRoom(Due due) {
        LoadChecks x = Make.wide(16);
        due.refuses(x, Due.UNKNOWN, () -> x.vehicle(6, 1_000, 0, 0));
    }

    static void p02_rangeBeforeNoRoom(Due due) {
        LoadChecks x = Make.wide(16);
        due.refuses(x, Due.RANGE, () -> x.vehicle(0, 8_001, 0, 0));
        due.refuses(x, Due.RANGE, () -> x.vehicle(0, 1_000, -1, 0));
        due.refuses(x, Due.RANGE, () -> x.vehicle(0, 1_000, 0, -1));
    }

    static void p02_newVehiclesAreEmptyAndUnchecked(Due due) {
        LoadChecks x = Make.wide(16);
        for (int i = 0; i < 16; i++) {
            int vehicle = i;
            due.answers(0, () -> x.has(vehicle, 7, 29));
            due.answers(0, () -> x.axle(vehicle, 0));
            due.answers(1, () -> x.ready(vehicle));
        }
    }

    static void p02_newVehiclesHaveWholeSealsFullBatteriesAndNoEnds(Due due) {
        LoadChecks x = Make.wide(2);
        x.now(9_999, 2);
        for (int item = 0; item < 30; item++) {
            x.item(item, 0, 100);
            x.list(0, 0, item, 1);
            x.put(0, 0, item, 1);
            x.put(1, 0, item, 1);
        }
        x.check(0);
        x.check(1);
        due.answers(0, () -> x.ready(0));
        due.answers(0, () -> x.ready(1));
    }

    static void p03_vehiclesThatThereAre(Due due) {
        LoadChecks x = Make.wide(2);
        due.refusesOutside(0, 1, x, Due.UNKNOWN, vehicle -> x.limits(vehicle, 0, 0));
        due.passes(() -> x.limits(0, 0, 0));
        due.passes(() -> x.limits(1, 0, 0));
    }

    static void p03_front0To20000000(Due due) {
        LoadChecks x = Make.limited(7, WIDE);
        due.refusesOutside(0, WIDE, x, Due.RANGE, front -> x.limits(0, front, 0));
        due.passes(() -> x.limits(0, 0, WIDE));
        due.refuses(x, Due.STATE, () -> x.put(0, 0, 0, 1));
        due.passes(() -> x.limits(0, WIDE, WIDE));
        x.item(2, 500_000, 0);
        due.answers(40, () -> x.put(0, 0, 2, 40));
        due.refuses(x, Due.STATE, () -> x.put(0, 0, 0, 1));
    }

    static void p03_rear0To20000000(Due due) {
        LoadChecks x = Make.limited(WIDE, 7);
        due.refusesOutside(0, WIDE, x, Due.RANGE, rear -> x.limits(0, 0, rear));
        due.passes(() -> x.limits(0, WIDE, 0));
        due.refuses(x, Due.STATE, () -> x.put(0, 1, 0, 1));
        due.passes(() -> x.limits(0, WIDE, WIDE));
        x.item(2, 500_000, 0);
        due.answers(40, () -> x.put(0, 1, 2, 40));
        due.refuses(x, Due.STATE, () -> x.put(0, 1, 0, 1));
    }

    static void p03_belowWhatIsBornePasses(Due due) {
        LoadChecks x = Make.limited(100, 100);
        x.check(0);
        x.put(0, 0, 1, 1);
        x.put(0, 1, 1, 1);
        due.passes(() -> x.limits(0, 99, 100));
        due.answers(6, () -> x.ready(0));
        due.passes(() -> x.limits(0, 100, 99));
        due.answers(6, () -> x.ready(0));
        due.passes(() -> x.limits(0, 100, 100));
        due.answers(0, () -> x.ready(0));
    }

    static void p03_ofThisVehicleAlone(Due due) {
        LoadChecks x = Make.limited(5, 5);
        Make.addLimited(x, 5, 5);
        x.limits(1, 0, 0);
        due.answers(5, () -> x.put(0, 0, 0, 5));
        due.answers(5, () -> x.put(0, 1, 0, 5));
        due.refuses(x, Due.STATE, () -> x.put(1, 0, 0, 1));
        due.refuses(x, Due.STATE, () -> x.put(1, 1, 0, 1));
    }

    static void p03_unknownBeforeRange(Due due) {
        LoadChecks x = Make.wide(1);
        due.refuses(x, Due.UNKNOWN, () -> x.limits(1, -1, 0));
        due.refuses(x, Due.UNKNOWN, () -> x.limits(-1, 0, WIDE + 1));
    }

    static void p04_vehiclesThatThereAre(Due due) {
        LoadChecks x = Make.wide(2);
        due.refusesOutside(0, 1, x, Due.UNKNOWN, vehicle -> x.place(vehicle, 0, 1));
        due.passes(() -> x.place(0, 0, 1));
        due.passes(() -> x.place(1, 0, 1));
    }

    static void p04_cupboards0To7(Due due) {
        LoadChecks x = Make.limited(WIDE, WIDE);
        due.refusesOutside(0, 7, x, Due.UNKNOWN, cupboard -> x.place(0, cupboard, 1));
        due.passes(() -> x.place(0, 0, 3_000));
        due.passes(() -> x.place(0, 7, 5_000));
        x.put(0, 0, 0, 1);
        due.answers(3, () -> x.axle(0, 2));
        x.put(0, 7, 0, 1);
        due.answers(8, () -> x.axle(0, 2));
    }

    static void p04_placeMinus2000To10000(Due due) {
        LoadChecks x = Make.limited(WIDE, WIDE);
        due.refusesOutside(-2_000, 10_000, x, Due.RANGE, mm -> x.place(0, 4, mm));
        due.passes(() -> x.place(0, 4, -2_000));
        due.passes(() -> x.place(0, 5, 10_000));
        x.put(0, 4, 0, 1);
        due.answers(-2, () -> x.axle(0, 2));
        due.answers(3, () -> x.axle(0, 0));
        x.use(0, 4, 0, 1);
        x.put(0, 5, 0, 1);
        due.answers(10, () -> x.axle(0, 2));
        due.answers(-9, () -> x.axle(0, 0));
    }

    static void p04_0AtFirst(Due due) {
        LoadChecks x = Make.wide(1);
        x.item(0, 1, 0);
        for (int i = 0; i < 8; i++) {
            int cupboard = i;
            x.put(0, cupboard, 0, 1);
            due.answers(0, () -> x.axle(0, 2));
        }
    }

    static void p04_emptyTakesItsPlaceAgain(Due due) {
        LoadChecks x = Make.limited(WIDE, WIDE);
        due.passes(() -> x.place(0, 0, 3_000));
        due.passes(() -> x.place(0, 0, 3_000));
        due.passes(() -> x.place(0, 0, 4_000));
        x.put(0, 0, 0, 1);
        due.answers(4, () -> x.axle(0, 2));
    }

    static void p04_notEmptyByOneOfAnyItem(Due due) {
        LoadChecks x = Make.wide(1);
        for (int i = 0; i < 30; i++) {
            x.put(0, 3, i, 1);
            due.refuses(x, Due.STATE, () -> x.place(0, 3, 7));
            x.use(0, 3, i, 1);
            due.passes(() -> x.place(0, 3, 7));
        }
    }

    static void p04_notEmptyIsRefusedItsOwnPlaceToo(Due due) {
        LoadChecks x = Make.wide(1);
        x.put(0, 0, 0, 1);
        due.refuses(x, Due.STATE, () -> x.place(0, 0, 0));
    }

    static void p04_emptyAgainAfterUseOrSwap(Due due) {
        LoadChecks x = Make.limited(WIDE, WIDE);
        Make.addLimited(x, WIDE, WIDE);
        x.put(0, 0, 0, 99);
        x.use(0, 0, 0, 98);
        due.refuses(x, Due.STATE, () -> x.place(0, 0, 2_000));
        x.swap(0, 1, 0, 0, 1);
        due.passes(() -> x.place(0, 0, 2_000));
        due.refuses(x, Due.STATE, () -> x.place(1, 0, 2_000));
        x.use(1, 0, 0, 1);
        due.passes(() -> x.place(1, 0, 2_000));
    }

    static void p04_notEmptyByReplace(Due due) {
        LoadChecks x = Make.wide(1);
        x.list(0, 0, 0, 1);
        x.stock(0, 1);
        x.replace(0);
        due.refuses(x, Due.STATE, () -> x.place(0, 0, 1));
    }

    static void p04_othersNeedNotBeEmpty(Due due) {
        LoadChecks x = Make.wide(2);
        x.put(0, 2, 29, 1);
        x.put(0, 4, 0, 1);
        x.put(1, 3, 0, 1);
        due.passes(() -> x.place(0, 3, 1));
    }

    static void p04_unknownBeforeRange(Due due) {
        LoadChecks x = Make.wide(1);
        due.refuses(x, Due.UNKNOWN, () -> x.place(1, 0, 10_001));
        due.refuses(x, Due.UNKNOWN, () -> x.place(0, 8, 10_001));
        due.refuses(x, Due.UNKNOWN, () -> x.place(0, -1, -2_001));
    }

    static void p04_rangeBeforeState(Due due) {
        LoadChecks x = Make.wide(1);
        x.put(0, 0, 0, 1);
        due.refuses(x, Due.RANGE, () -> x.place(0, 0, 10_001));
        due.refuses(x, Due.RANGE, () -> x.place(0, 0, -2_001));
    }
}
