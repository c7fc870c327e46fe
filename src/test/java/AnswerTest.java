/** Promises 17 to 23: ready, missing, share, axle, row, has, stocked. */
public final class AnswerTest {
    private static final int WIDE = Make.WIDE;
    private static final int REASONS = 6;

    public static void main(String[] args) {
        Cases.run(AnswerTest.class, 17, 23);
    }

    static void p17_vehiclesThatThereAre(Due due) {
        LoadChecks x = Make.ready();
        x.seal(1, 0, false);
        due.refusesOutside(0, 1, x, Due.UNKNOWN, vehicle -> x.ready(vehicle));
        due.answers(0, () -> x.ready(0));
        due.answers(3, () -> x.ready(1));
    }

    static void p17_nothingNeededAndNothingBorne(Due due) {
        LoadChecks x = new LoadChecks();
        x.vehicle(0, 1_000, 0, 0);
        x.check(0);
        due.answers(0, () -> x.ready(0));
    }

    /** A vehicle that is not ready for these reasons, a bit for each, the first reason's lowest. */
    private static LoadChecks notReadyFor(int reasons) {
        LoadChecks x = Make.ready();
        x.item(5, 0, 60);
        x.item(6, 1, 0);
        x.put(0, 0, 6, 1);
        if ((reasons & 1) != 0) {
            x.now(0, 1);
        }
        if ((reasons & 2) != 0) {
            x.list(0, 2, 5, 2);
        }
        if ((reasons & 4) != 0) {
            x.seal(0, 7, false);
        }
        if ((reasons & 8) != 0) {
            x.ends(0, 5, 0);
        }
        if ((reasons & 16) != 0) {
            x.battery(0, 5, 59);
        }
        if ((reasons & 32) != 0) {
            x.limits(0, 0, 0);
        }
        return x;
    }

    static void p17_theFirstOfEachSetOfReasons(Due due) {
        for (int reasons = 0; reasons < 1 << REASONS; reasons++) {
            LoadChecks x = notReadyFor(reasons);
            int first = reasons == 0 ? 0 : Integer.numberOfTrailingZeros(reasons) + 1;
            due.answers(first, () -> x.ready(0));
        }
    }

    static void p17_missingByOneInTheFirstAndTheLastPlace(Due due) {
        LoadChecks x = Make.wide(1);
        x.check(0);
        for (int cell : new int[] {0, 239}) {
            x.list(0, cell / 30, cell % 30, 99);
            x.put(0, cell / 30, cell % 30, 98);
            due.answers(2, () -> x.ready(0));
            x.put(0, cell / 30, cell % 30, 1);
            due.answers(0, () -> x.ready(0));
        }
    }

    static void p17_elsewhereIsMissingAllTheSame(Due due) {
        LoadChecks x = Make.wide(1);
        x.check(0);
        x.list(0, 0, 0, 1);
        x.put(0, 1, 0, 99);
        due.answers(2, () -> x.ready(0));
    }

    static void p17_frontAtItsLimitAndOneGramBeyond(Due due) {
        LoadChecks x = Make.limited(WIDE, WIDE);
        x.check(0);
        x.put(0, 0, 1, 1);
        x.limits(0, 100, 0);
        due.answers(0, () -> x.ready(0));
        x.limits(0, 99, 0);
        due.answers(6, () -> x.ready(0));
    }

    static void p17_rearAtItsLimitAndOneGramBeyond(Due due) {
        LoadChecks x = Make.limited(WIDE, WIDE);
        x.check(0);
        x.put(0, 1, 1, 1);
        x.limits(0, 0, 100);
        due.answers(0, () -> x.ready(0));
        x.limits(0, 0, 99);
        due.answers(6, () -> x.ready(0));
    }

    static void p17_frontBeyondByTheSmallestFraction(Due due) {
        LoadChecks x = new LoadChecks();
        x.vehicle(0, 8_000, WIDE, WIDE);
        x.item(0, 1, 0);
        x.place(0, 0, 7_999);
        x.check(0);
        x.put(0, 0, 0, 1);
        x.limits(0, 0, 1);
        due.answers(6, () -> x.ready(0));
        x.limits(0, 1, 1);
        due.answers(0, () -> x.ready(0));
    }

    static void p17_rearBeyondByTheSmallestFraction(Due due) {
        LoadChecks x = new LoadChecks();
        x.vehicle(0, 8_000, WIDE, WIDE);
        x.item(0, 1, 0);
        x.place(0, 0, 1);
        x.check(0);
        x.put(0, 0, 0, 1);
        x.limits(0, 1, 0);
        due.answers(6, () -> x.ready(0));
        x.limits(0, 1, 1);
        due.answers(0, () -> x.ready(0));
    }

    static void p17_axlesBelow0AreNotBeyond(Due due) {
        LoadChecks x = Make.limited(WIDE, WIDE);
        x.check(0);
        x.put(0, 3, 1, 1);
        x.limits(0, 0, 200);
        due.answers(0, () -> x.ready(0));
        x.limits(0, WIDE, WIDE);
        x.use(0, 3, 1, 1);
        x.put(0, 2, 1, 1);
        x.limits(0, 200, 0);
        due.answers(0, () -> x.ready(0));
    }

    static void p17_whatItNeedsNoMoreIsNoReason(Due due) {
        LoadChecks x = Make.ready();
        x.item(5, 0, 60);
        x.ends(0, 5, 0);
        x.battery(0, 5, 59);
        x.list(0, 2, 5, 0);
        due.answers(0, () -> x.ready(0));
    }

    static void p17_askingChangesNothing(Due due) {
        LoadChecks x = notReadyFor(63);
        x.swap(0, 1, 0, 6, 1);
        String before = State.of(x);
        due.passes(() -> x.ready(0));
        due.passes(() -> x.missing(0, 0));
        due.passes(() -> x.share(0));
        due.passes(() -> x.axle(0, 0));
        due.passes(() -> x.row(0, 0));
        due.passes(() -> x.has(0, 0, 0));
        due.passes(() -> x.stocked(0));
        due.holds("asking changes the object", State.of(x).equals(before));
    }

    static void p18_vehiclesThatThereAre(Due due) {
        LoadChecks x = Make.wide(2);
        x.list(0, 0, 0, 3);
        x.put(1, 0, 0, 1);
        due.refusesOutside(0, 1, x, Due.UNKNOWN, vehicle -> x.missing(vehicle, 0));
        due.answers(3, () -> x.missing(0, 0));
        due.answers(2, () -> x.missing(1, 0));
    }

    static void p18_iBelow0(Due due) {
        LoadChecks x = Make.wide(1);
        x.list(0, 0, 0, 3);
        due.refuses(x, Due.RANGE, () -> x.missing(0, -1));
        due.refuses(x, Due.RANGE, () -> x.missing(0, Integer.MIN_VALUE));
        due.answers(3, () -> x.missing(0, 0));
    }

    static void p18_nothingIsMissing(Due due) {
        LoadChecks x = Make.wide(1);
        due.answers(-1, () -> x.missing(0, 0));
        due.answers(-1, () -> x.missing(0, Integer.MAX_VALUE));
        due.refuses(x, Due.RANGE, () -> x.missing(0, -1));
    }

    static void p18_notSoMany(Due due) {
        LoadChecks x = Make.wide(1);
        x.list(0, 0, 0, 3);
        x.list(0, 7, 29, 4);
        due.answers(72_904, () -> x.missing(0, 1));
        due.answers(-1, () -> x.missing(0, 2));
        due.answers(-1, () -> x.missing(0, Integer.MAX_VALUE));
    }

    static void p18_byCupboardsThenItems(Due due) {
        LoadChecks x = Make.wide(1);
        x.list(0, 1, 29, 1);
        x.list(0, 1, 0, 2);
        x.list(0, 0, 29, 3);
        x.list(0, 2, 0, 4);
        due.answers(2_903, () -> x.missing(0, 0));
        due.answers(10_002, () -> x.missing(0, 1));
        due.answers(12_901, () -> x.missing(0, 2));
        due.answers(20_004, () -> x.missing(0, 3));
        due.answers(-1, () -> x.missing(0, 4));
    }

    static void p18_asManyAsNeededOneFewerAndOneMore(Due due) {
        LoadChecks x = Make.wide(1);
        x.list(0, 3, 4, 5);
        x.put(0, 3, 4, 4);
        due.answers(30_401, () -> x.missing(0, 0));
        x.put(0, 3, 4, 1);
        due.answers(-1, () -> x.missing(0, 0));
        x.put(0, 3, 4, 1);
        due.answers(-1, () -> x.missing(0, 0));
    }

    static void p18_whatIsThereLeavesNoGap(Due due) {
        LoadChecks x = Make.wide(1);
        x.list(0, 0, 0, 1);
        x.list(0, 0, 1, 2);
        x.list(0, 0, 2, 3);
        x.put(0, 0, 1, 2);
        due.answers(1, () -> x.missing(0, 0));
        due.answers(203, () -> x.missing(0, 1));
        due.answers(-1, () -> x.missing(0, 2));
    }

    static void p18_everythingIsMissing(Due due) {
        LoadChecks x = Make.wide(1);
        for (int cell = 0; cell < 240; cell++) {
            x.list(0, cell / 30, cell % 30, 99);
        }
        for (int i = 0; i < 240; i++) {
            int cell = i;
            due.answers(cell / 30 * 10_000 + cell % 30 * 100 + 99, () -> x.missing(0, cell));
        }
        due.answers(-1, () -> x.missing(0, 240));
    }

    static void p18_unknownBeforeRange(Due due) {
        LoadChecks x = Make.wide(1);
        due.refuses(x, Due.UNKNOWN, () -> x.missing(1, -1));
        due.refuses(x, Due.UNKNOWN, () -> x.missing(-1, -1));
    }

    static void p19_vehiclesThatThereAre(Due due) {
        LoadChecks x = Make.wide(2);
        x.list(0, 0, 0, 4);
        x.put(0, 0, 0, 1);
        x.put(1, 0, 0, 3);
        due.refusesOutside(0, 1, x, Due.UNKNOWN, vehicle -> x.share(vehicle));
        due.answers(250, () -> x.share(0));
        due.answers(750, () -> x.share(1));
    }

    static void p19_nothingIsNeeded(Due due) {
        LoadChecks x = Make.wide(1);
        due.refuses(x, Due.ARITHMETIC, () -> x.share(0));
        x.put(0, 0, 0, 99);
        due.refuses(x, Due.ARITHMETIC, () -> x.share(0));
        x.list(1, 0, 0, 1);
        due.refuses(x, Due.ARITHMETIC, () -> x.share(0));
        x.list(0, 7, 29, 1);
        due.answers(0, () -> x.share(0));
        x.list(0, 7, 29, 0);
        due.refuses(x, Due.ARITHMETIC, () -> x.share(0));
    }

    static void p19_unknownBeforeArithmetic(Due due) {
        LoadChecks x = Make.wide(1);
        due.refuses(x, Due.UNKNOWN, () -> x.share(1));
        due.refuses(x, Due.UNKNOWN, () -> x.share(-1));
    }

    static void p19_noneAndAllOfOne(Due due) {
        LoadChecks x = Make.wide(1);
        x.list(0, 0, 0, 1);
        due.answers(0, () -> x.share(0));
        x.put(0, 0, 0, 1);
        due.answers(1_000, () -> x.share(0));
    }

    static void p19_atMostAsManyAsNeeded(Due due) {
        LoadChecks x = Make.wide(1);
        x.list(0, 0, 0, 1);
        x.list(0, 0, 1, 1);
        x.put(0, 0, 0, 99);
        due.answers(500, () -> x.share(0));
        x.put(0, 0, 1, 2);
        due.answers(1_000, () -> x.share(0));
    }

    static void p19_whatIsElsewhereDoesNotCount(Due due) {
        LoadChecks x = Make.wide(1);
        x.list(0, 0, 0, 2);
        x.put(0, 1, 0, 2);
        x.put(0, 0, 1, 2);
        due.answers(0, () -> x.share(0));
    }

    static void p19_roundedDown(Due due) {
        LoadChecks x = Make.wide(1);
        x.list(0, 0, 0, 3);
        x.put(0, 0, 0, 1);
        due.answers(333, () -> x.share(0));
        x.put(0, 0, 0, 1);
        due.answers(666, () -> x.share(0));
    }

    static void p19_oneOfAllIsMissing(Due due) {
        LoadChecks x = Make.wide(1);
        for (int cell = 0; cell < 240; cell++) {
            x.list(0, cell / 30, cell % 30, 99);
            x.put(0, cell / 30, cell % 30, 99);
        }
        due.answers(1_000, () -> x.share(0));
        x.use(0, 7, 29, 1);
        due.answers(999, () -> x.share(0));
    }

    static void p19_lessThanAThousandthIs0(Due due) {
        LoadChecks x = Make.wide(1);
        for (int cell = 0; cell < 240; cell++) {
            x.list(0, cell / 30, cell % 30, 99);
        }
        x.put(0, 0, 0, 23);
        due.answers(0, () -> x.share(0));
        x.put(0, 0, 0, 1);
        due.answers(1, () -> x.share(0));
    }

    private static void axles(Due due, LoadChecks x, long front, long frontLower, long rear, long rearLower) {
        due.answers(front, () -> x.axle(0, 0));
        due.answers(frontLower, () -> x.axle(0, 1));
        due.answers(rear, () -> x.axle(0, 2));
        due.answers(rearLower, () -> x.axle(0, 3));
    }

    static void p20_vehiclesThatThereAre(Due due) {
        LoadChecks x = Make.limited(WIDE, WIDE);
        Make.addLimited(x, WIDE, WIDE);
        x.put(0, 0, 0, 3);
        x.put(1, 0, 0, 4);
        due.refusesOutside(0, 1, x, Due.UNKNOWN, vehicle -> x.axle(vehicle, 0));
        due.answers(3, () -> x.axle(0, 0));
        due.answers(4, () -> x.axle(1, 0));
    }

    static void p20_what0To3(Due due) {
        LoadChecks x = Make.wide(1);
        due.refusesOutside(0, 3, x, Due.UNKNOWN, what -> x.axle(0, what));
        due.answers(0, () -> x.axle(0, 0));
        due.answers(1, () -> x.axle(0, 3));
    }

    static void p20_nothingIs0Over1(Due due) {
        LoadChecks x = Make.limited(WIDE, WIDE);
        axles(due, x, 0, 1, 0, 1);
        x.put(0, 3, 2, 99);
        axles(due, x, 0, 1, 0, 1);
        x.put(0, 3, 1, 5);
        x.use(0, 3, 1, 5);
        axles(due, x, 0, 1, 0, 1);
    }

    static void p20_eachAxleInItsOwnLowestTerms(Due due) {
        LoadChecks x = new LoadChecks();
        x.vehicle(0, 1_500, WIDE, WIDE);
        x.item(0, 7, 0);
        x.place(0, 0, 1_000);
        x.put(0, 0, 0, 1);
        axles(due, x, 7, 3, 14, 3);
        x.place(0, 1, -1);
        x.put(0, 1, 0, 1);
        axles(due, x, 4_669, 500, 2_331, 500);
        x.use(0, 0, 0, 1);
        axles(due, x, 10_507, 1_500, -7, 1_500);
    }

    static void p20_wholeNumbersAreOver1(Due due) {
        LoadChecks x = Make.limited(WIDE, WIDE);
        x.put(0, 0, 1, 2);
        x.put(0, 1, 1, 3);
        axles(due, x, 200, 1, 300, 1);
    }

    static void p20_frontBelow0(Due due) {
        LoadChecks x = new LoadChecks();
        x.vehicle(0, 1_500, WIDE, WIDE);
        x.item(0, 1, 0);
        x.place(0, 0, 1_501);
        x.put(0, 0, 0, 3);
        axles(due, x, -1, 500, 1_501, 500);
    }

    static void p20_rearBelow0(Due due) {
        LoadChecks x = new LoadChecks();
        x.vehicle(0, 1_500, WIDE, WIDE);
        x.item(0, 1, 0);
        x.place(0, 0, -1);
        x.put(0, 0, 0, 3);
        axles(due, x, 1_501, 500, -1, 500);
    }

    static void p20_longestFractions(Due due) {
        LoadChecks x = new LoadChecks();
        x.vehicle(0, 7_993, WIDE, WIDE);
        x.item(0, 500_000, 0);
        x.place(0, 0, 7_992);
        x.put(0, 0, 0, 40);
        axles(due, x, 20_000_000L, 7_993L, 159_840_000_000L, 7_993L);
    }

    static void p20_heaviestOnTheShortestWheelbase(Due due) {
        LoadChecks x = new LoadChecks();
        x.vehicle(0, 1_000, WIDE, WIDE);
        x.item(0, 500_000, 0);
        x.place(0, 0, 10_000);
        x.put(0, 0, 0, 4);
        axles(due, x, -18_000_000, 1, 20_000_000, 1);
    }

    static void p20_limitsDoNotCount(Due due) {
        LoadChecks x = Make.limited(WIDE, WIDE);
        x.put(0, 0, 1, 1);
        x.limits(0, 0, 0);
        axles(due, x, 100, 1, 0, 1);
    }

    private static void rowIs(Due due, LoadChecks x, int i, int vehicle, int item, int count) {
        due.answers(vehicle, () -> x.row(i, 0));
        due.answers(item, () -> x.row(i, 1));
        due.answers(count, () -> x.row(i, 2));
    }

    /** So many swaps of 1 of item 29, from vehicle 0 to 1 and back in turn, after one of 99 of item 28. */
    private static LoadChecks swapped(int swaps) {
        LoadChecks x = Make.wide(2);
        x.put(0, 0, 28, 99);
        x.put(0, 0, 29, 1);
        x.swap(0, 1, 0, 28, 99);
        for (int i = 1; i < swaps; i++) {
            x.swap(1 - i % 2, i % 2, 0, 29, 1);
        }
        return x;
    }

    static void p21_noneYet(Due due) {
        LoadChecks x = Make.wide(2);
        x.put(0, 0, 0, 1);
        x.use(0, 0, 0, 1);
        due.refuses(x, Due.UNKNOWN, () -> x.row(0, 0));
        due.refuses(x, Due.UNKNOWN, () -> x.row(-1, 0));
    }

    static void p21_giversThenGetters(Due due) {
        LoadChecks x = Make.wide(16);
        x.put(15, 7, 29, 99);
        x.swap(15, 3, 7, 29, 99);
        rowIs(due, x, 0, 15, 29, -99);
        rowIs(due, x, 1, 3, 29, 99);
        x.swap(3, 0, 7, 29, 1);
        rowIs(due, x, 2, 3, 29, -1);
        rowIs(due, x, 3, 0, 29, 1);
    }

    static void p21_rowsThatThereAre(Due due) {
        LoadChecks x = swapped(1);
        due.refusesOutside(0, 1, x, Due.UNKNOWN, i -> x.row(i, 0));
        due.answers(0, () -> x.row(0, 0));
        due.answers(1, () -> x.row(1, 0));
    }

    static void p21_what0To2(Due due) {
        LoadChecks x = swapped(2);
        due.refusesOutside(0, 2, x, Due.UNKNOWN, what -> x.row(0, what));
        due.refusesOutside(0, 2, x, Due.UNKNOWN, what -> x.row(3, what));
        due.answers(0, () -> x.row(0, 0));
        due.answers(-99, () -> x.row(0, 2));
    }

    static void p21_all100AreKept(Due due) {
        LoadChecks x = swapped(50);
        rowIs(due, x, 0, 0, 28, -99);
        rowIs(due, x, 1, 1, 28, 99);
        rowIs(due, x, 98, 0, 29, -1);
        rowIs(due, x, 99, 1, 29, 1);
        due.refuses(x, Due.UNKNOWN, () -> x.row(100, 0));
    }

    static void p21_theFirstTwoFallOutOf102(Due due) {
        LoadChecks x = swapped(51);
        due.refuses(x, Due.UNKNOWN, () -> x.row(0, 0));
        due.refuses(x, Due.UNKNOWN, () -> x.row(1, 0));
        rowIs(due, x, 2, 0, 29, -1);
        rowIs(due, x, 3, 1, 29, 1);
        rowIs(due, x, 100, 1, 29, -1);
        rowIs(due, x, 101, 0, 29, 1);
        due.refuses(x, Due.UNKNOWN, () -> x.row(102, 0));
    }

    static void p21_refusedSwapsLetNoneFallOut(Due due) {
        LoadChecks x = swapped(50);
        due.refuses(x, Due.STATE, () -> x.swap(0, 1, 1, 28, 1));
        rowIs(due, x, 0, 0, 28, -99);
        due.refuses(x, Due.UNKNOWN, () -> x.row(100, 0));
    }

    static void p21_theLatest100OfAsManyAsCallsAllow(Due due) {
        LoadChecks x = swapped(480);
        due.refuses(x, Due.UNKNOWN, () -> x.row(859, 0));
        rowIs(due, x, 860, 1, 29, -1);
        rowIs(due, x, 861, 0, 29, 1);
        rowIs(due, x, 958, 0, 29, -1);
        rowIs(due, x, 959, 1, 29, 1);
        due.refuses(x, Due.UNKNOWN, () -> x.row(960, 0));
        due.refuses(x, Due.UNKNOWN, () -> x.row(0, 0));
    }

    static void p21_eachKeptRowInTurn(Due due) {
        LoadChecks x = Make.wide(2);
        for (int i = 0; i < 29; i++) {
            x.put(0, 0, i, 99);
        }
        for (int i = 0; i < 70; i++) {
            x.swap(0, 1, 0, i % 29, 1 + i);
            x.swap(1, 0, 0, i % 29, 1 + i);
        }
        for (int i = 180; i < 280; i += 4) {
            int swap = i / 4;
            rowIs(due, x, i, 0, swap % 29, -1 - swap);
            rowIs(due, x, i + 1, 1, swap % 29, 1 + swap);
            rowIs(due, x, i + 2, 1, swap % 29, -1 - swap);
            rowIs(due, x, i + 3, 0, swap % 29, 1 + swap);
        }
    }

    static void p22_vehiclesThatThereAre(Due due) {
        LoadChecks x = Make.wide(2);
        x.put(0, 0, 0, 3);
        x.put(1, 0, 0, 4);
        due.refusesOutside(0, 1, x, Due.UNKNOWN, vehicle -> x.has(vehicle, 0, 0));
        due.answers(3, () -> x.has(0, 0, 0));
        due.answers(4, () -> x.has(1, 0, 0));
    }

    static void p22_cupboards0To7(Due due) {
        LoadChecks x = Make.wide(1);
        x.put(0, 0, 29, 3);
        x.put(0, 7, 0, 4);
        due.refusesOutside(0, 7, x, Due.UNKNOWN, cupboard -> x.has(0, cupboard, 0));
        due.answers(3, () -> x.has(0, 0, 29));
        due.answers(4, () -> x.has(0, 7, 0));
    }

    static void p22_items0To29(Due due) {
        LoadChecks x = Make.wide(1);
        x.put(0, 1, 0, 3);
        x.put(0, 1, 29, 4);
        due.refusesOutside(0, 29, x, Due.UNKNOWN, item -> x.has(0, 1, item));
        due.answers(3, () -> x.has(0, 1, 0));
        due.answers(4, () -> x.has(0, 1, 29));
        due.answers(0, () -> x.has(0, 0, 29));
        due.answers(0, () -> x.has(0, 2, 0));
    }

    static void p22_noneYetFullAndNoneAgain(Due due) {
        LoadChecks x = Make.wide(1);
        due.answers(0, () -> x.has(0, 0, 0));
        x.put(0, 0, 0, 99);
        due.answers(99, () -> x.has(0, 0, 0));
        x.use(0, 0, 0, 99);
        due.answers(0, () -> x.has(0, 0, 0));
    }

    static void p23_items0To29(Due due) {
        LoadChecks x = new LoadChecks();
        x.stock(0, 3);
        x.stock(29, 4);
        due.refusesOutside(0, 29, x, Due.UNKNOWN, item -> x.stocked(item));
        due.answers(3, () -> x.stocked(0));
        due.answers(4, () -> x.stocked(29));
        due.answers(0, () -> x.stocked(1));
        due.answers(0, () -> x.stocked(28));
    }

    static void p23_noneYetAndNoneAgain(Due due) {
        LoadChecks x = Make.wide(1);
        due.answers(0, () -> x.stocked(29));
        x.stock(29, 6);
        due.answers(6, () -> x.stocked(29));
        x.list(0, 0, 29, 4);
        x.replace(0);
        due.answers(2, () -> x.stocked(29));
        x.list(0, 0, 29, 99);
        x.replace(0);
        due.answers(0, () -> x.stocked(29));
    }
}
