/** Promises 8 to 11: put, use, replace, swap. */
public final class LoadTest {
    private static final int WIDE = Make.WIDE;

    public static void main(String[] args) {
        Cases.run(LoadTest.class, 8, 11);
    }

    static void p08_vehiclesThatThereAre(Due due) {
        LoadChecks x = Make.wide(2);
        due.refusesOutside(0, 1, x, Due.UNKNOWN, vehicle -> x.put(vehicle, 0, 0, 1));
        due.answers(1, () -> x.put(0, 0, 0, 1));
        due.answers(2, () -> x.put(1, 0, 0, 2));
        due.answers(1, () -> x.has(0, 0, 0));
    }

    static void p08_cupboards0To7(Due due) {
        LoadChecks x = Make.wide(1);
        due.refusesOutside(0, 7, x, Due.UNKNOWN, cupboard -> x.put(0, cupboard, 0, 1));
        due.answers(1, () -> x.put(0, 0, 0, 1));
        due.answers(2, () -> x.put(0, 7, 0, 2));
        due.answers(1, () -> x.has(0, 0, 0));
    }

    static void p08_items0To29(Due due) {
        LoadChecks x = Make.wide(1);
        due.refusesOutside(0, 29, x, Due.UNKNOWN, item -> x.put(0, 0, item, 1));
        due.answers(1, () -> x.put(0, 0, 0, 1));
        due.answers(2, () -> x.put(0, 0, 29, 2));
        due.answers(1, () -> x.has(0, 0, 0));
        due.answers(0, () -> x.has(0, 1, 0));
    }

    static void p08_n1To99(Due due) {
        LoadChecks x = Make.wide(1);
        due.refusesOutside(1, 99, x, Due.RANGE, n -> x.put(0, 0, 0, n));
        due.refuses(x, Due.RANGE, () -> x.put(0, 0, 0, -1));
        due.answers(1, () -> x.put(0, 0, 0, 1));
        due.answers(99, () -> x.put(0, 0, 1, 99));
    }

    static void p08_noRoomAbove99(Due due) {
        LoadChecks x = Make.wide(1);
        x.put(0, 0, 0, 1);
        due.refuses(x, Due.NO_ROOM, () -> x.put(0, 0, 0, 99));
        due.answers(98, () -> x.put(0, 0, 0, 97));
        due.refuses(x, Due.NO_ROOM, () -> x.put(0, 0, 0, 2));
        due.answers(99, () -> x.put(0, 0, 0, 1));
        due.refuses(x, Due.NO_ROOM, () -> x.put(0, 0, 0, 1));
        due.answers(99, () -> x.has(0, 0, 0));
    }

    static void p08_eachItemOfEachCupboardHasRoomOfItsOwn(Due due) {
        LoadChecks x = Make.wide(1);
        x.put(0, 3, 3, 99);
        due.answers(99, () -> x.put(0, 3, 4, 99));
        due.answers(99, () -> x.put(0, 4, 3, 99));
    }

    static void p08_comesFromOutsideAndNotFromStock(Due due) {
        LoadChecks x = Make.wide(1);
        x.stock(0, 5);
        due.answers(9, () -> x.put(0, 0, 0, 9));
        due.answers(5, () -> x.stocked(0));
    }

    static void p08_frontAtItsLimitAndOneGramBeyond(Due due) {
        LoadChecks x = Make.limited(100, 0);
        due.refuses(x, Due.STATE, () -> x.put(0, 0, 1, 2));
        due.answers(1, () -> x.put(0, 0, 1, 1));
        due.answers(100, () -> x.axle(0, 0));
        due.refuses(x, Due.STATE, () -> x.put(0, 0, 0, 1));
    }

    static void p08_rearAtItsLimitAndOneGramBeyond(Due due) {
        LoadChecks x = Make.limited(0, 100);
        due.refuses(x, Due.STATE, () -> x.put(0, 1, 1, 2));
        due.answers(1, () -> x.put(0, 1, 1, 1));
        due.answers(100, () -> x.axle(0, 2));
        due.refuses(x, Due.STATE, () -> x.put(0, 1, 0, 1));
    }

    static void p08_frontBeyondByTheSmallestFraction(Due due) {
        LoadChecks x = new LoadChecks();
        x.vehicle(0, 8_000, 1, WIDE);
        x.item(0, 1, 0);
        x.place(0, 1, 7_999);
        due.answers(1, () -> x.put(0, 0, 0, 1));
        due.refuses(x, Due.STATE, () -> x.put(0, 1, 0, 1));
        x.limits(0, 2, WIDE);
        due.answers(1, () -> x.put(0, 1, 0, 1));
        due.answers(8_001, () -> x.axle(0, 0));
        due.answers(8_000, () -> x.axle(0, 1));
    }

    static void p08_rearBeyondByTheSmallestFraction(Due due) {
        LoadChecks x = new LoadChecks();
        x.vehicle(0, 8_000, WIDE, 1);
        x.item(0, 1, 0);
        x.place(0, 0, 8_000);
        x.place(0, 1, 1);
        due.answers(1, () -> x.put(0, 0, 0, 1));
        due.refuses(x, Due.STATE, () -> x.put(0, 1, 0, 1));
        x.limits(0, WIDE, 2);
        due.answers(1, () -> x.put(0, 1, 0, 1));
        due.answers(8_001, () -> x.axle(0, 2));
        due.answers(8_000, () -> x.axle(0, 3));
    }

    static void p08_bothAxlesAtTheirLimits(Due due) {
        LoadChecks x = new LoadChecks();
        x.vehicle(0, 3_000, 2, 1);
        x.item(0, 1, 0);
        x.place(0, 0, 1_000);
        due.answers(3, () -> x.put(0, 0, 0, 3));
        due.refuses(x, Due.STATE, () -> x.put(0, 0, 0, 1));
    }

    static void p08_limitsOf0TakeWhatWeighsNothing(Due due) {
        LoadChecks x = Make.limited(0, 0);
        due.answers(99, () -> x.put(0, 0, 2, 99));
        due.answers(99, () -> x.put(0, 3, 2, 99));
        due.refuses(x, Due.STATE, () -> x.put(0, 0, 0, 1));
        due.refuses(x, Due.STATE, () -> x.put(0, 1, 0, 1));
    }

    static void p08_frontThatIsBeyondMayBearNoMore(Due due) {
        LoadChecks x = Make.limited(WIDE, WIDE);
        x.put(0, 0, 1, 5);
        x.limits(0, 499, WIDE);
        due.refuses(x, Due.STATE, () -> x.put(0, 0, 0, 1));
        due.answers(1, () -> x.put(0, 1, 0, 1));
        due.answers(500, () -> x.axle(0, 0));
        due.answers(99, () -> x.put(0, 0, 2, 99));
    }

    static void p08_rearThatIsBeyondMayBearNoMore(Due due) {
        LoadChecks x = Make.limited(WIDE, WIDE);
        x.put(0, 1, 1, 5);
        x.limits(0, WIDE, 499);
        due.refuses(x, Due.STATE, () -> x.put(0, 1, 0, 1));
        due.answers(1, () -> x.put(0, 0, 0, 1));
        due.answers(500, () -> x.axle(0, 2));
        due.answers(99, () -> x.put(0, 1, 2, 99));
    }

    static void p08_frontThatIsBeyondMayBeRelieved(Due due) {
        LoadChecks x = Make.limited(WIDE, WIDE);
        x.put(0, 0, 1, 5);
        x.limits(0, 0, 200);
        due.answers(1, () -> x.put(0, 3, 1, 1));
        due.answers(400, () -> x.axle(0, 0));
        due.refuses(x, Due.STATE, () -> x.put(0, 3, 0, 1));
    }

    static void p08_rearThatIsBeyondMayBeRelieved(Due due) {
        LoadChecks x = Make.limited(WIDE, WIDE);
        x.put(0, 1, 1, 5);
        x.limits(0, 200, 0);
        due.answers(1, () -> x.put(0, 2, 1, 1));
        due.answers(400, () -> x.axle(0, 2));
        due.refuses(x, Due.STATE, () -> x.put(0, 2, 0, 1));
    }

    static void p08_axlesBelow0BearMoreUpToTheirLimit(Due due) {
        LoadChecks x = Make.limited(0, WIDE);
        x.put(0, 3, 1, 1);
        due.answers(-100, () -> x.axle(0, 0));
        due.refuses(x, Due.STATE, () -> x.put(0, 0, 1, 2));
        due.answers(1, () -> x.put(0, 0, 1, 1));
        due.refuses(x, Due.STATE, () -> x.put(0, 0, 0, 1));
        LoadChecks y = Make.limited(WIDE, 0);
        y.put(0, 2, 1, 1);
        due.answers(-100, () -> y.axle(0, 2));
        due.refuses(y, Due.STATE, () -> y.put(0, 1, 1, 2));
        due.answers(1, () -> y.put(0, 1, 1, 1));
        due.refuses(y, Due.STATE, () -> y.put(0, 1, 0, 1));
    }

    static void p08_heaviestOnTheWidestLimits(Due due) {
        LoadChecks x = new LoadChecks();
        x.vehicle(0, 1_000, WIDE, WIDE);
        x.item(0, 500_000, 0);
        x.place(0, 0, 10_000);
        due.refuses(x, Due.STATE, () -> x.put(0, 0, 0, 99));
        due.refuses(x, Due.STATE, () -> x.put(0, 0, 0, 5));
        due.answers(4, () -> x.put(0, 0, 0, 4));
        due.answers(76, () -> x.put(0, 1, 0, 76));
        due.refuses(x, Due.STATE, () -> x.put(0, 1, 0, 1));
        due.answers(20_000_000, () -> x.axle(0, 0));
        due.answers(20_000_000, () -> x.axle(0, 2));
    }

    static void p08_unknownBeforeRange(Due due) {
        LoadChecks x = Make.wide(1);
        due.refuses(x, Due.UNKNOWN, () -> x.put(1, 0, 0, 0));
        due.refuses(x, Due.UNKNOWN, () -> x.put(0, 8, 0, 0));
        due.refuses(x, Due.UNKNOWN, () -> x.put(0, 0, 30, 100));
    }

    static void p08_rangeBeforeState(Due due) {
        LoadChecks x = Make.limited(0, 0);
        due.refuses(x, Due.RANGE, () -> x.put(0, 0, 0, 100));
        due.refuses(x, Due.RANGE, () -> x.put(0, 0, 0, 0));
    }

    static void p08_rangeBeforeNoRoom(Due due) {
        LoadChecks x = Make.wide(1);
        x.put(0, 0, 0, 99);
        due.refuses(x, Due.RANGE, () -> x.put(0, 0, 0, 100));
        due.refuses(x, Due.RANGE, () -> x.put(0, 0, 0, 0));
    }

    static void p08_stateBeforeNoRoom(Due due) {
        LoadChecks x = Make.limited(99, 0);
        x.put(0, 0, 0, 99);
        due.refuses(x, Due.STATE, () -> x.put(0, 0, 0, 1));
        x.limits(0, 100, 0);
        due.refuses(x, Due.NO_ROOM, () -> x.put(0, 0, 0, 1));
        due.refuses(x, Due.STATE, () -> x.put(0, 0, 0, 2));
    }

    static void p09_vehiclesThatThereAre(Due due) {
        LoadChecks x = Make.wide(2);
        x.put(0, 0, 0, 5);
        x.put(1, 0, 0, 7);
        due.refusesOutside(0, 1, x, Due.UNKNOWN, vehicle -> x.use(vehicle, 0, 0, 1));
        due.answers(4, () -> x.use(0, 0, 0, 1));
        due.answers(6, () -> x.use(1, 0, 0, 1));
    }

    static void p09_cupboards0To7(Due due) {
        LoadChecks x = Make.wide(1);
        x.put(0, 0, 0, 5);
        x.put(0, 7, 0, 7);
        due.refusesOutside(0, 7, x, Due.UNKNOWN, cupboard -> x.use(0, cupboard, 0, 1));
        due.answers(4, () -> x.use(0, 0, 0, 1));
        due.answers(6, () -> x.use(0, 7, 0, 1));
    }

    static void p09_items0To29(Due due) {
        LoadChecks x = Make.wide(1);
        x.put(0, 0, 0, 5);
        x.put(0, 0, 29, 7);
        due.refusesOutside(0, 29, x, Due.UNKNOWN, item -> x.use(0, 0, item, 1));
        due.answers(4, () -> x.use(0, 0, 0, 1));
        due.answers(6, () -> x.use(0, 0, 29, 1));
    }

    static void p09_n1To99(Due due) {
        LoadChecks x = Make.wide(1);
        x.put(0, 0, 0, 99);
        x.put(0, 0, 1, 99);
        due.refusesOutside(1, 99, x, Due.RANGE, n -> x.use(0, 0, 0, n));
        due.refuses(x, Due.RANGE, () -> x.use(0, 0, 0, -1));
        due.answers(98, () -> x.use(0, 0, 0, 1));
        due.answers(0, () -> x.use(0, 0, 1, 99));
    }

    static void p09_noneThereYet(Due due) {
        LoadChecks x = Make.wide(2);
        x.put(1, 0, 0, 1);
        x.put(0, 1, 0, 1);
        x.put(0, 0, 1, 1);
        x.stock(0, 99);
        due.refuses(x, Due.STATE, () -> x.use(0, 0, 0, 1));
    }

    static void p09_allAndOneMore(Due due) {
        LoadChecks x = Make.wide(1);
        x.put(0, 0, 0, 10);
        due.refuses(x, Due.STATE, () -> x.use(0, 0, 0, 11));
        due.answers(3, () -> x.use(0, 0, 0, 7));
        due.refuses(x, Due.STATE, () -> x.use(0, 0, 0, 4));
        due.answers(0, () -> x.use(0, 0, 0, 3));
        due.refuses(x, Due.STATE, () -> x.use(0, 0, 0, 1));
    }

    static void p09_usedWeighNoMoreAndGoNowhere(Due due) {
        LoadChecks x = Make.limited(WIDE, WIDE);
        x.put(0, 3, 1, 2);
        x.use(0, 3, 1, 1);
        due.answers(-100, () -> x.axle(0, 0));
        due.answers(200, () -> x.axle(0, 2));
        due.answers(0, () -> x.stocked(1));
        x.use(0, 3, 1, 1);
        due.answers(0, () -> x.axle(0, 0));
        due.answers(0, () -> x.axle(0, 2));
        due.refuses(x, Due.UNKNOWN, () -> x.row(0, 0));
    }

    static void p09_anAxleMayGoBeyond(Due due) {
        LoadChecks x = Make.limited(0, WIDE);
        x.put(0, 3, 1, 1);
        x.put(0, 0, 1, 1);
        x.check(0);
        due.answers(0, () -> x.ready(0));
        due.answers(0, () -> x.use(0, 3, 1, 1));
        due.answers(6, () -> x.ready(0));
    }

    static void p09_unknownBeforeRange(Due due) {
        LoadChecks x = Make.wide(1);
        due.refuses(x, Due.UNKNOWN, () -> x.use(1, 0, 0, 0));
        due.refuses(x, Due.UNKNOWN, () -> x.use(0, 8, 0, 0));
        due.refuses(x, Due.UNKNOWN, () -> x.use(0, 0, 30, 100));
    }

    static void p09_rangeBeforeState(Due due) {
        LoadChecks x = Make.wide(1);
        due.refuses(x, Due.RANGE, () -> x.use(0, 0, 0, 100));
        due.refuses(x, Due.RANGE, () -> x.use(0, 0, 0, 0));
    }

    static void p10_vehiclesThatThereAre(Due due) {
        LoadChecks x = Make.wide(2);
        x.list(0, 0, 0, 3);
        x.stock(0, 5);
        due.refusesOutside(0, 1, x, Due.UNKNOWN, vehicle -> x.replace(vehicle));
        due.answers(3, () -> x.replace(0));
        due.answers(2, () -> x.replace(1));
    }

    static void p10_nothingIsMissing(Due due) {
        LoadChecks x = Make.wide(1);
        x.stock(0, 99);
        due.answers(0, () -> x.replace(0));
        x.list(0, 0, 0, 2);
        x.put(0, 0, 0, 2);
        due.answers(0, () -> x.replace(0));
        due.answers(99, () -> x.stocked(0));
    }

    static void p10_nothingIsInStock(Due due) {
        LoadChecks x = Make.wide(1);
        x.list(0, 0, 0, 2);
        x.stock(1, 99);
        due.answers(0, () -> x.replace(0));
        due.answers(2, () -> x.missing(0, 0));
    }

    static void p10_stockOfOneFewerAsManyAndOneMore(Due due) {
        for (int stocked = 3; stocked <= 5; stocked++) {
            LoadChecks x = Make.wide(1);
            x.list(0, 2, 3, 6);
            x.put(0, 2, 3, 2);
            x.stock(3, stocked);
            int moved = Math.min(stocked, 4);
            due.answers(moved, () -> x.replace(0));
            due.answers(2 + moved, () -> x.has(0, 2, 3));
            due.answers(stocked - moved, () -> x.stocked(3));
        }
    }

    static void p10_moreThanNeededStays(Due due) {
        LoadChecks x = Make.wide(1);
        x.list(0, 0, 0, 2);
        x.put(0, 0, 0, 5);
        x.stock(0, 1);
        due.answers(0, () -> x.replace(0));
        due.answers(5, () -> x.has(0, 0, 0));
    }

    static void p10_ofItsOwnKind(Due due) {
        LoadChecks x = Make.wide(1);
        x.vehicle(5, 1_000, WIDE, WIDE);
        x.list(0, 0, 0, 2);
        x.list(5, 0, 0, 7);
        x.stock(0, 99);
        due.answers(7, () -> x.replace(1));
        due.answers(2, () -> x.replace(0));
    }

    static void p10_scarceStockGoesToTheFirstCupboards(Due due) {
        LoadChecks x = Make.wide(1);
        x.list(0, 7, 0, 4);
        x.list(0, 6, 0, 4);
        x.list(0, 0, 0, 4);
        x.stock(0, 6);
        due.answers(6, () -> x.replace(0));
        due.answers(4, () -> x.has(0, 0, 0));
        due.answers(2, () -> x.has(0, 6, 0));
        due.answers(0, () -> x.has(0, 7, 0));
        due.answers(0, () -> x.stocked(0));
    }

    static void p10_cupboardsBeforeItems(Due due) {
        LoadChecks x = Make.limited(1, 0);
        x.item(29, 1, 0);
        x.list(0, 4, 0, 1);
        x.list(0, 0, 29, 1);
        x.stock(0, 1);
        x.stock(29, 1);
        due.answers(1, () -> x.replace(0));
        due.answers(1, () -> x.has(0, 0, 29));
        due.answers(0, () -> x.has(0, 4, 0));
    }

    static void p10_thenByItems(Due due) {
        LoadChecks x = Make.limited(1, 0);
        x.item(29, 1, 0);
        x.list(0, 0, 29, 1);
        x.list(0, 0, 0, 1);
        x.stock(0, 1);
        x.stock(29, 1);
        due.answers(1, () -> x.replace(0));
        due.answers(1, () -> x.has(0, 0, 0));
        due.answers(0, () -> x.has(0, 0, 29));
    }

    static void p10_firstAndLastOfAll(Due due) {
        LoadChecks x = Make.wide(1);
        x.list(0, 0, 0, 1);
        x.list(0, 7, 29, 99);
        x.stock(0, 9);
        x.stock(29, 99);
        due.answers(100, () -> x.replace(0));
        due.answers(1, () -> x.has(0, 0, 0));
        due.answers(99, () -> x.has(0, 7, 29));
    }

    static void p10_everythingAtOnce(Due due) {
        LoadChecks x = Make.wide(1);
        for (int cell = 0; cell < 240; cell++) {
            x.list(0, cell / 30, cell % 30, 99);
            x.stock(cell % 30, 99);
        }
        due.answers(240 * 99, () -> x.replace(0));
        due.answers(-1, () -> x.missing(0, 0));
        due.answers(0, () -> x.stocked(29));
    }

    static void p10_axlesAtTheirLimitsAreNotBeyond(Due due) {
        LoadChecks x = Make.limited(300, 400);
        x.list(0, 0, 1, 3);
        x.list(0, 1, 1, 4);
        x.stock(1, 99);
        due.answers(7, () -> x.replace(0));
        due.answers(300, () -> x.axle(0, 0));
        due.answers(400, () -> x.axle(0, 2));
    }

    static void p10_oneGramBeyondTheFrontIsLeftOutAsAWhole(Due due) {
        LoadChecks x = Make.limited(299, WIDE);
        x.list(0, 0, 1, 3);
        x.stock(1, 99);
        due.answers(0, () -> x.replace(0));
        due.answers(0, () -> x.has(0, 0, 1));
        due.answers(99, () -> x.stocked(1));
    }

    static void p10_oneGramBeyondTheRearIsLeftOutAsAWhole(Due due) {
        LoadChecks x = Make.limited(WIDE, 299);
        x.list(0, 1, 1, 3);
        x.stock(1, 99);
        due.answers(0, () -> x.replace(0));
        due.answers(0, () -> x.has(0, 1, 1));
        due.answers(99, () -> x.stocked(1));
    }

    static void p10_asManyAsAreInStockAreJudgedAsAWhole(Due due) {
        LoadChecks x = Make.limited(299, WIDE);
        x.list(0, 0, 1, 3);
        x.stock(1, 2);
        due.answers(2, () -> x.replace(0));
        due.answers(2, () -> x.has(0, 0, 1));
    }

    static void p10_laterThingsComeAfterOneThatIsLeftOut(Due due) {
        LoadChecks x = Make.limited(101, WIDE);
        x.list(0, 0, 1, 2);
        x.list(0, 0, 2, 5);
        x.list(0, 4, 0, 1);
        x.list(0, 5, 1, 1);
        x.list(0, 6, 0, 1);
        x.stock(0, 9);
        x.stock(1, 9);
        x.stock(2, 9);
        due.answers(7, () -> x.replace(0));
        due.answers(0, () -> x.has(0, 0, 1));
        due.answers(5, () -> x.has(0, 0, 2));
        due.answers(1, () -> x.has(0, 4, 0));
        due.answers(1, () -> x.has(0, 5, 1));
        due.answers(0, () -> x.has(0, 6, 0));
        due.answers(8, () -> x.stocked(1));
    }

    static void p10_leftOutDoesNotComeBackInOneCall(Due due) {
        LoadChecks x = Make.limited(0, WIDE);
        x.list(0, 0, 1, 1);
        x.list(0, 3, 1, 1);
        x.stock(1, 2);
        due.answers(1, () -> x.replace(0));
        due.answers(0, () -> x.has(0, 0, 1));
        due.answers(1, () -> x.replace(0));
        due.answers(1, () -> x.has(0, 0, 1));
    }

    static void p10_anAxleThatIsBeyondMayBeRelieved(Due due) {
        LoadChecks x = Make.limited(WIDE, WIDE);
        x.put(0, 0, 1, 9);
        x.limits(0, 0, WIDE);
        x.list(0, 1, 1, 1);
        x.list(0, 3, 1, 2);
        x.list(0, 4, 0, 1);
        x.stock(0, 1);
        x.stock(1, 9);
        due.answers(3, () -> x.replace(0));
        due.answers(700, () -> x.axle(0, 0));
        due.answers(0, () -> x.has(0, 4, 0));
    }

    static void p10_leavesNoRows(Due due) {
        LoadChecks x = Make.wide(1);
        x.list(0, 0, 0, 1);
        x.stock(0, 1);
        x.replace(0);
        due.refuses(x, Due.UNKNOWN, () -> x.row(0, 0));
    }

    static void p11_vehiclesThatThereAre(Due due) {
        LoadChecks x = Make.wide(3);
        x.put(0, 0, 0, 9);
        due.refusesOutside(0, 2, x, Due.UNKNOWN, from -> x.swap(from, 0, 0, 0, 1));
        due.refusesOutside(0, 2, x, Due.UNKNOWN, to -> x.swap(0, to, 0, 0, 1));
        due.passes(() -> x.swap(0, 2, 0, 0, 5));
        due.passes(() -> x.swap(2, 0, 0, 0, 1));
        due.answers(5, () -> x.has(0, 0, 0));
        due.answers(4, () -> x.has(2, 0, 0));
    }

    static void p11_oneVehicleIsNotTwo(Due due) {
        LoadChecks x = Make.wide(2);
        x.put(0, 0, 0, 9);
        x.put(1, 0, 0, 9);
        due.refuses(x, Due.UNKNOWN, () -> x.swap(0, 0, 0, 0, 1));
        due.refuses(x, Due.UNKNOWN, () -> x.swap(1, 1, 0, 0, 1));
    }

    static void p11_cupboards0To7(Due due) {
        LoadChecks x = Make.wide(2);
        x.put(0, 0, 0, 9);
        x.put(0, 7, 0, 9);
        due.refusesOutside(0, 7, x, Due.UNKNOWN, cupboard -> x.swap(0, 1, cupboard, 0, 1));
        due.passes(() -> x.swap(0, 1, 0, 0, 2));
        due.passes(() -> x.swap(0, 1, 7, 0, 3));
        due.answers(2, () -> x.has(1, 0, 0));
        due.answers(3, () -> x.has(1, 7, 0));
    }

    static void p11_items0To29(Due due) {
        LoadChecks x = Make.wide(2);
        x.put(0, 0, 0, 9);
        x.put(0, 0, 29, 9);
        due.refusesOutside(0, 29, x, Due.UNKNOWN, item -> x.swap(0, 1, 0, item, 1));
        due.passes(() -> x.swap(0, 1, 0, 0, 2));
        due.passes(() -> x.swap(0, 1, 0, 29, 3));
        due.answers(2, () -> x.has(1, 0, 0));
        due.answers(3, () -> x.has(1, 0, 29));
    }

    static void p11_n1To99(Due due) {
        LoadChecks x = Make.wide(2);
        x.put(0, 0, 0, 99);
        x.put(0, 0, 1, 99);
        due.refusesOutside(1, 99, x, Due.RANGE, n -> x.swap(0, 1, 0, 0, n));
        due.refuses(x, Due.RANGE, () -> x.swap(0, 1, 0, 0, -1));
        due.passes(() -> x.swap(0, 1, 0, 0, 1));
        due.passes(() -> x.swap(0, 1, 0, 1, 99));
        due.answers(98, () -> x.has(0, 0, 0));
        due.answers(0, () -> x.has(0, 0, 1));
        due.answers(99, () -> x.has(1, 0, 1));
    }

    static void p11_noneThereYet(Due due) {
        LoadChecks x = Make.wide(2);
        x.put(1, 0, 0, 9);
        x.put(0, 1, 0, 9);
        x.put(0, 0, 1, 9);
        due.refuses(x, Due.STATE, () -> x.swap(0, 1, 0, 0, 1));
    }

    static void p11_allAndOneMore(Due due) {
        LoadChecks x = Make.wide(2);
        x.put(0, 0, 0, 10);
        due.refuses(x, Due.STATE, () -> x.swap(0, 1, 0, 0, 11));
        due.passes(() -> x.swap(0, 1, 0, 0, 10));
        due.answers(0, () -> x.has(0, 0, 0));
        due.answers(10, () -> x.has(1, 0, 0));
        due.refuses(x, Due.STATE, () -> x.swap(0, 1, 0, 0, 1));
    }

    static void p11_noRoomAbove99(Due due) {
        LoadChecks x = Make.wide(2);
        x.put(0, 0, 0, 99);
        x.put(1, 0, 0, 90);
        due.refuses(x, Due.NO_ROOM, () -> x.swap(0, 1, 0, 0, 10));
        due.passes(() -> x.swap(0, 1, 0, 0, 9));
        due.answers(99, () -> x.has(1, 0, 0));
        due.refuses(x, Due.NO_ROOM, () -> x.swap(0, 1, 0, 0, 1));
        due.answers(90, () -> x.has(0, 0, 0));
    }

    /** Vehicle 0 has 9 of 100 grams over each axle; vehicle 1 is empty, with these limits. */
    private static LoadChecks giverAndGetter(int front, int rear) {
        LoadChecks x = Make.limited(WIDE, WIDE);
        Make.addLimited(x, front, rear);
        x.put(0, 0, 1, 9);
        x.put(0, 1, 1, 9);
        return x;
    }

    static void p11_gettersFrontAtItsLimitAndOneGramBeyond(Due due) {
        LoadChecks x = giverAndGetter(299, 0);
        due.refuses(x, Due.STATE, () -> x.swap(0, 1, 0, 1, 3));
        x.limits(1, 300, 0);
        due.passes(() -> x.swap(0, 1, 0, 1, 3));
        due.refuses(x, Due.STATE, () -> x.swap(0, 1, 0, 1, 1));
    }

    static void p11_gettersRearAtItsLimitAndOneGramBeyond(Due due) {
        LoadChecks x = giverAndGetter(0, 299);
        due.refuses(x, Due.STATE, () -> x.swap(0, 1, 1, 1, 3));
        x.limits(1, 0, 300);
        due.passes(() -> x.swap(0, 1, 1, 1, 3));
        due.refuses(x, Due.STATE, () -> x.swap(0, 1, 1, 1, 1));
    }

    static void p11_aGettersAxleThatIsBeyondMayBearNoMore(Due due) {
        LoadChecks x = giverAndGetter(WIDE, WIDE);
        x.put(1, 0, 1, 9);
        x.limits(1, 899, WIDE);
        due.refuses(x, Due.STATE, () -> x.swap(0, 1, 0, 1, 1));
        due.passes(() -> x.swap(0, 1, 1, 1, 1));
    }

    static void p11_aGettersAxleThatIsBeyondMayBeRelieved(Due due) {
        LoadChecks x = giverAndGetter(WIDE, WIDE);
        x.put(0, 3, 1, 9);
        x.put(1, 0, 1, 9);
        x.limits(1, 0, 200);
        due.passes(() -> x.swap(0, 1, 3, 1, 1));
        due.answers(800, () -> x.axle(1, 0));
        due.refuses(x, Due.STATE, () -> x.swap(0, 1, 3, 1, 1));
    }

    static void p11_giversAxlesAreNotLookedAt(Due due) {
        LoadChecks x = giverAndGetter(WIDE, WIDE);
        x.limits(0, 0, 0);
        due.passes(() -> x.swap(0, 1, 0, 1, 1));
        x.limits(0, WIDE, WIDE);
        x.put(0, 3, 1, 5);
        x.limits(0, 300, WIDE);
        x.check(0);
        due.answers(0, () -> x.ready(0));
        due.passes(() -> x.swap(0, 1, 3, 1, 1));
        due.answers(6, () -> x.ready(0));
    }

    static void p11_weighsAtEachVehiclesOwnPlace(Due due) {
        LoadChecks x = new LoadChecks();
        x.vehicle(0, 1_000, WIDE, WIDE);
        x.vehicle(1, 2_000, WIDE, WIDE);
        x.item(3, 100, 0);
        x.place(0, 4, 500);
        x.place(1, 4, 1_500);
        x.put(0, 4, 3, 10);
        x.swap(0, 1, 4, 3, 4);
        due.answers(300, () -> x.axle(0, 0));
        due.answers(300, () -> x.axle(0, 2));
        due.answers(100, () -> x.axle(1, 0));
        due.answers(300, () -> x.axle(1, 2));
    }

    static void p11_endsBatteriesAndStockStay(Due due) {
        LoadChecks x = Make.ready();
        x.put(0, 2, 5, 1);
        x.item(5, 0, 50);
        x.ends(0, 5, 0);
        x.battery(0, 5, 49);
        x.stock(5, 3);
        x.swap(0, 1, 2, 5, 1);
        due.answers(0, () -> x.ready(1));
        due.answers(4, () -> x.ready(0));
        x.ends(0, 5, -1);
        due.answers(5, () -> x.ready(0));
        due.answers(3, () -> x.stocked(5));
    }

    static void p11_refusedLeavesNoRow(Due due) {
        LoadChecks x = Make.wide(2);
        x.put(0, 0, 0, 1);
        due.refuses(x, Due.UNKNOWN, () -> x.swap(0, 0, 0, 0, 1));
        due.refuses(x, Due.RANGE, () -> x.swap(0, 1, 0, 0, 0));
        due.refuses(x, Due.STATE, () -> x.swap(0, 1, 0, 0, 2));
        due.refuses(x, Due.UNKNOWN, () -> x.row(0, 0));
    }

    static void p11_unknownBeforeRange(Due due) {
        LoadChecks x = Make.wide(2);
        due.refuses(x, Due.UNKNOWN, () -> x.swap(2, 0, 0, 0, 0));
        due.refuses(x, Due.UNKNOWN, () -> x.swap(0, 2, 0, 0, 0));
        due.refuses(x, Due.UNKNOWN, () -> x.swap(0, 0, 0, 0, 0));
        due.refuses(x, Due.UNKNOWN, () -> x.swap(0, 1, 8, 0, 100));
        due.refuses(x, Due.UNKNOWN, () -> x.swap(0, 1, 0, 30, 100));
    }

    static void p11_unknownBeforeState(Due due) {
        LoadChecks x = Make.wide(2);
        due.refuses(x, Due.UNKNOWN, () -> x.swap(0, 0, 0, 0, 1));
        due.refuses(x, Due.UNKNOWN, () -> x.swap(0, 2, 0, 0, 1));
    }

    static void p11_unknownBeforeNoRoom(Due due) {
        LoadChecks x = Make.wide(2);
        x.put(0, 0, 0, 99);
        due.refuses(x, Due.UNKNOWN, () -> x.swap(0, 0, 0, 0, 99));
    }

    static void p11_rangeBeforeState(Due due) {
        LoadChecks x = Make.wide(2);
        due.refuses(x, Due.RANGE, () -> x.swap(0, 1, 0, 0, 100));
        due.refuses(x, Due.RANGE, () -> x.swap(0, 1, 0, 0, 0));
    }

    static void p11_rangeBeforeNoRoom(Due due) {
        LoadChecks x = Make.wide(2);
        x.put(0, 0, 0, 99);
        x.put(1, 0, 0, 99);
        due.refuses(x, Due.RANGE, () -> x.swap(0, 1, 0, 0, 100));
        due.refuses(x, Due.RANGE, () -> x.swap(0, 1, 0, 0, 0));
    }

    static void p11_notSoManyBeforeNoRoom(Due due) {
        LoadChecks x = Make.wide(2);
        x.put(0, 0, 0, 5);
        x.put(1, 0, 0, 95);
        due.refuses(x, Due.STATE, () -> x.swap(0, 1, 0, 0, 6));
        due.refuses(x, Due.NO_ROOM, () -> x.swap(0, 1, 0, 0, 5));
    }

    static void p11_axlesBeforeNoRoom(Due due) {
        LoadChecks x = Make.limited(WIDE, WIDE);
        Make.addLimited(x, 99, 0);
        x.put(0, 0, 0, 9);
        x.put(1, 0, 0, 99);
        due.refuses(x, Due.STATE, () -> x.swap(0, 1, 0, 0, 1));
        x.limits(1, 100, 0);
        due.refuses(x, Due.NO_ROOM, () -> x.swap(0, 1, 0, 0, 1));
        due.refuses(x, Due.STATE, () -> x.swap(0, 1, 0, 0, 2));
    }
}
