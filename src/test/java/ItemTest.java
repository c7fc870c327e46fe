/** Promises 5 to 7: item, list, stock. */
public final class ItemTest {
    private static final int WIDE = Make.WIDE;

    public static void main(String[] args) {
        Cases.run(ItemTest.class, 5, 7);
    }

    static void p05_items0To29(Due due) {
        LoadChecks x = Make.wide(1);
        due.refusesOutside(0, 29, x, Due.UNKNOWN, item -> x.item(item, 1, 1));
        due.passes(() -> x.item(0, 3, 0));
        due.passes(() -> x.item(29, 5, 0));
        x.put(0, 0, 0, 1);
        due.answers(3, () -> x.axle(0, 0));
        x.put(0, 0, 29, 1);
        due.answers(8, () -> x.axle(0, 0));
    }

    static void p05_grams0To500000(Due due) {
        LoadChecks x = Make.wide(1);
        due.refusesOutside(0, 500_000, x, Due.RANGE, grams -> x.item(0, grams, 0));
        due.passes(() -> x.item(0, 500_000, 0));
        due.passes(() -> x.item(1, 500_000, 0));
        due.passes(() -> x.item(1, 0, 0));
        x.put(0, 0, 0, 1);
        x.put(0, 0, 1, 1);
        due.answers(500_000, () -> x.axle(0, 0));
    }

    static void p05_least0To100(Due due) {
        LoadChecks x = Make.ready();
        due.refusesOutside(0, 100, x, Due.RANGE, least -> x.item(5, 0, least));
        due.passes(() -> x.item(5, 0, 100));
        due.answers(0, () -> x.ready(0));
        x.battery(0, 5, 99);
        due.answers(5, () -> x.ready(0));
        x.battery(0, 5, 0);
        due.answers(5, () -> x.ready(0));
        due.passes(() -> x.item(5, 0, 0));
        due.answers(0, () -> x.ready(0));
    }

    static void p05_anotherWeightWhileOneIsInAnyCupboard(Due due) {
        LoadChecks x = Make.wide(16);
        for (int vehicle : new int[] {0, 1, 15}) {
            for (int cupboard = 0; cupboard < 8; cupboard++) {
                x.put(vehicle, cupboard, 29, 1);
                due.refuses(x, Due.STATE, () -> x.item(29, 1, 0));
                x.use(vehicle, cupboard, 29, 1);
                due.passes(() -> x.item(29, 1, 0));
                due.passes(() -> x.item(29, 0, 0));
            }
        }
    }

    static void p05_anotherWeightWhileOneIsInStock(Due due) {
        LoadChecks x = Make.wide(1);
        x.list(0, 0, 0, 1);
        due.passes(() -> x.item(0, 7, 0));
        x.stock(0, 1);
        due.refuses(x, Due.STATE, () -> x.item(0, 8, 0));
        due.refuses(x, Due.STATE, () -> x.item(0, 6, 0));
        x.replace(0);
        due.answers(0, () -> x.stocked(0));
        due.refuses(x, Due.STATE, () -> x.item(0, 8, 0));
        x.use(0, 0, 0, 1);
        due.passes(() -> x.item(0, 8, 0));
    }

    static void p05_anotherWeightAfterASwap(Due due) {
        LoadChecks x = Make.wide(2);
        x.put(0, 0, 0, 1);
        x.swap(0, 1, 0, 0, 1);
        due.refuses(x, Due.STATE, () -> x.item(0, 1, 0));
        x.use(1, 0, 0, 1);
        due.passes(() -> x.item(0, 1, 0));
    }

    static void p05_theSameWeightPassesWhileThereAreSome(Due due) {
        LoadChecks x = Make.ready();
        x.stock(5, 1);
        x.battery(0, 5, 50);
        due.passes(() -> x.item(5, 0, 51));
        due.answers(5, () -> x.ready(0));
        due.passes(() -> x.item(5, 0, 50));
        due.answers(0, () -> x.ready(0));
    }

    static void p05_refusedWeightKeepsTheLeast(Due due) {
        LoadChecks x = Make.ready();
        x.battery(0, 5, 50);
        due.refuses(x, Due.STATE, () -> x.item(5, 1, 100));
        due.answers(0, () -> x.ready(0));
    }

    static void p05_whatOthersAreThereIsFree(Due due) {
        LoadChecks x = Make.wide(1);
        x.put(0, 0, 1, 1);
        x.put(0, 0, 3, 1);
        x.stock(1, 1);
        x.stock(3, 1);
        due.passes(() -> x.item(2, 1, 0));
    }

    static void p05_neededButNowhereIsFree(Due due) {
        LoadChecks x = Make.wide(1);
        x.list(0, 0, 0, 99);
        due.passes(() -> x.item(0, 1, 0));
    }

    static void p05_unknownBeforeRange(Due due) {
        LoadChecks x = new LoadChecks();
        due.refuses(x, Due.UNKNOWN, () -> x.item(30, -1, 0));
        due.refuses(x, Due.UNKNOWN, () -> x.item(-1, 0, 101));
    }

    static void p05_rangeBeforeState(Due due) {
        LoadChecks x = new LoadChecks();
        x.stock(0, 1);
        due.refuses(x, Due.RANGE, () -> x.item(0, 500_001, 0));
        due.refuses(x, Due.RANGE, () -> x.item(0, -1, 0));
        due.refuses(x, Due.RANGE, () -> x.item(0, 1, 101));
        due.refuses(x, Due.RANGE, () -> x.item(0, 1, -1));
    }

    static void p06_kinds0To5(Due due) {
        LoadChecks x = new LoadChecks();
        for (int kind = 0; kind < 6; kind++) {
            x.vehicle(kind, 1_000, 0, 0);
        }
        due.refusesOutside(0, 5, x, Due.UNKNOWN, kind -> x.list(kind, 0, 0, 1));
        due.passes(() -> x.list(0, 0, 0, 3));
        due.passes(() -> x.list(5, 0, 0, 8));
        due.answers(3, () -> x.missing(0, 0));
        due.answers(-1, () -> x.missing(1, 0));
        due.answers(-1, () -> x.missing(4, 0));
        due.answers(8, () -> x.missing(5, 0));
    }

    static void p06_cupboards0To7(Due due) {
        LoadChecks x = Make.wide(1);
        due.refusesOutside(0, 7, x, Due.UNKNOWN, cupboard -> x.list(0, cupboard, 0, 1));
        due.passes(() -> x.list(0, 0, 0, 1));
        due.passes(() -> x.list(0, 7, 0, 1));
        due.answers(1, () -> x.missing(0, 0));
        due.answers(70_001, () -> x.missing(0, 1));
    }

    static void p06_items0To29(Due due) {
        LoadChecks x = Make.wide(1);
        due.refusesOutside(0, 29, x, Due.UNKNOWN, item -> x.list(0, 0, item, 1));
        due.passes(() -> x.list(0, 0, 0, 1));
        due.passes(() -> x.list(0, 0, 29, 1));
        due.answers(1, () -> x.missing(0, 0));
        due.answers(2_901, () -> x.missing(0, 1));
    }

    static void p06_count0To99(Due due) {
        LoadChecks x = Make.wide(1);
        x.list(0, 0, 0, 7);
        due.refusesOutside(0, 99, x, Due.RANGE, count -> x.list(0, 0, 0, count));
        due.passes(() -> x.list(0, 0, 0, 99));
        due.answers(99, () -> x.missing(0, 0));
        due.passes(() -> x.list(0, 0, 0, 0));
        due.answers(-1, () -> x.missing(0, 0));
    }

    static void p06_aNewCountIsInTheOldOnesStead(Due due) {
        LoadChecks x = Make.wide(1);
        x.list(0, 1, 2, 5);
        x.list(0, 1, 2, 3);
        due.answers(10_203, () -> x.missing(0, 0));
        x.list(0, 1, 2, 4);
        due.answers(10_204, () -> x.missing(0, 0));
        due.answers(-1, () -> x.missing(0, 1));
    }

    static void p06_ofVehiclesThatThereAreAndOfLaterOnes(Due due) {
        LoadChecks x = Make.wide(1);
        x.list(0, 0, 0, 2);
        x.vehicle(0, 1_000, 0, 0);
        due.answers(2, () -> x.missing(0, 0));
        due.answers(2, () -> x.missing(1, 0));
    }

    static void p06_changesNoCupboardAndNoStock(Due due) {
        LoadChecks x = Make.wide(1);
        x.put(0, 0, 0, 5);
        x.stock(0, 5);
        x.list(0, 0, 0, 9);
        x.list(0, 0, 0, 1);
        due.answers(5, () -> x.has(0, 0, 0));
        due.answers(5, () -> x.stocked(0));
    }

    static void p06_unknownBeforeRange(Due due) {
        LoadChecks x = new LoadChecks();
        due.refuses(x, Due.UNKNOWN, () -> x.list(6, 0, 0, 100));
        due.refuses(x, Due.UNKNOWN, () -> x.list(0, 8, 0, 100));
        due.refuses(x, Due.UNKNOWN, () -> x.list(0, 0, 30, -1));
    }

    static void p07_items0To29(Due due) {
        LoadChecks x = new LoadChecks();
        due.refusesOutside(0, 29, x, Due.UNKNOWN, item -> x.stock(item, 1));
        due.answers(3, () -> x.stock(0, 3));
        due.answers(4, () -> x.stock(29, 4));
        due.answers(3, () -> x.stocked(0));
        due.answers(4, () -> x.stocked(29));
    }

    static void p07_n1To99(Due due) {
        LoadChecks x = new LoadChecks();
        due.refusesOutside(1, 99, x, Due.RANGE, n -> x.stock(0, n));
        due.refuses(x, Due.RANGE, () -> x.stock(0, -1));
        due.answers(1, () -> x.stock(0, 1));
        due.answers(100, () -> x.stock(0, 99));
    }

    /** 9,999 of item 0 in stock. */
    private static LoadChecks almostFull() {
        LoadChecks x = Make.wide(1);
        for (int i = 0; i < 101; i++) {
            x.stock(0, 99);
        }
        return x;
    }

    static void p07_noRoomAbove10000(Due due) {
        LoadChecks x = almostFull();
        due.answers(9_999, () -> x.stocked(0));
        due.refuses(x, Due.NO_ROOM, () -> x.stock(0, 2));
        due.refuses(x, Due.NO_ROOM, () -> x.stock(0, 99));
        due.answers(10_000, () -> x.stock(0, 1));
        due.refuses(x, Due.NO_ROOM, () -> x.stock(0, 1));
        due.answers(10_000, () -> x.stocked(0));
    }

    static void p07_roomAgainAfterReplace(Due due) {
        LoadChecks x = almostFull();
        x.stock(0, 1);
        x.list(0, 0, 0, 2);
        x.replace(0);
        due.refuses(x, Due.NO_ROOM, () -> x.stock(0, 3));
        due.answers(10_000, () -> x.stock(0, 2));
    }

    static void p07_eachItemHasRoomOfItsOwn(Due due) {
        LoadChecks x = almostFull();
        x.stock(0, 1);
        due.answers(99, () -> x.stock(1, 99));
    }

    static void p07_unknownBeforeRange(Due due) {
        LoadChecks x = new LoadChecks();
        due.refuses(x, Due.UNKNOWN, () -> x.stock(30, 0));
        due.refuses(x, Due.UNKNOWN, () -> x.stock(-1, 100));
    }

    static void p07_rangeBeforeNoRoom(Due due) {
        LoadChecks x = almostFull();
        due.refuses(x, Due.RANGE, () -> x.stock(0, 100));
        x.stock(0, 1);
        due.refuses(x, Due.RANGE, () -> x.stock(0, 0));
    }

    static void p07_whatIsInCupboardsIsNotInStock(Due due) {
        LoadChecks x = Make.wide(1);
        x.put(0, 0, 0, 99);
        due.answers(1, () -> x.stock(0, 1));
        x.use(0, 0, 0, 99);
        due.answers(2, () -> x.stock(0, 1));
    }
}
