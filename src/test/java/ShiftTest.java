/** Promises 12 to 16: ends, battery, seal, check, now. */
public final class ShiftTest {
    public static void main(String[] args) {
        Cases.run(ShiftTest.class, 12, 16);
    }

    static void p12_vehiclesThatThereAre(Due due) {
        LoadChecks x = Make.ready();
        due.refusesOutside(0, 1, x, Due.UNKNOWN, vehicle -> x.ends(vehicle, 5, 0));
        due.passes(() -> x.ends(1, 5, 0));
        due.answers(0, () -> x.ready(0));
        due.answers(4, () -> x.ready(1));
        due.passes(() -> x.ends(0, 5, 0));
        due.answers(4, () -> x.ready(0));
    }

    static void p12_items0To29(Due due) {
        LoadChecks x = Make.ready();
        x.list(0, 0, 0, 1);
        x.list(0, 7, 29, 1);
        x.put(0, 0, 0, 1);
        x.put(0, 7, 29, 1);
        due.refusesOutside(0, 29, x, Due.UNKNOWN, item -> x.ends(0, item, 0));
        due.passes(() -> x.ends(0, 0, 0));
        due.answers(4, () -> x.ready(0));
        due.passes(() -> x.ends(0, 0, -1));
        due.answers(0, () -> x.ready(0));
        due.passes(() -> x.ends(0, 29, 0));
        due.answers(4, () -> x.ready(0));
    }

    static void p12_dayMinus1To9999(Due due) {
        LoadChecks x = Make.ready();
        due.refusesOutside(-1, 9_999, x, Due.RANGE, day -> x.ends(0, 5, day));
        x.now(9_999, 0);
        x.check(0);
        due.passes(() -> x.ends(0, 5, 9_999));
        due.answers(4, () -> x.ready(0));
        due.passes(() -> x.ends(0, 5, -1));
        due.answers(0, () -> x.ready(0));
    }

    static void p12_noneAtFirst(Due due) {
        LoadChecks x = Make.ready();
        x.now(9_999, 2);
        x.check(0);
        due.answers(0, () -> x.ready(0));
    }

    static void p12_day0IsAnEnd(Due due) {
        LoadChecks x = Make.ready();
        due.passes(() -> x.ends(0, 5, 0));
        due.answers(4, () -> x.ready(0));
    }

    static void p12_pastFromThatDayOnAndNotTheDayBefore(Due due) {
        LoadChecks x = Make.ready();
        x.ends(0, 5, 7);
        x.now(6, 2);
        x.check(0);
        due.answers(0, () -> x.ready(0));
        x.now(7, 0);
        x.check(0);
        due.answers(4, () -> x.ready(0));
        x.now(8, 0);
        x.check(0);
        due.answers(4, () -> x.ready(0));
    }

    static void p12_aNewEndIsInTheOldOnesStead(Due due) {
        LoadChecks x = Make.ready();
        x.ends(0, 5, 0);
        x.ends(0, 5, 1);
        due.answers(0, () -> x.ready(0));
        x.ends(0, 5, 0);
        due.answers(4, () -> x.ready(0));
    }

    static void p12_ofWhatItDoesNotNeed(Due due) {
        LoadChecks x = Make.ready();
        x.put(0, 2, 4, 1);
        x.put(0, 2, 6, 1);
        x.ends(0, 4, 0);
        x.ends(0, 6, 0);
        due.answers(0, () -> x.ready(0));
    }

    static void p12_unknownBeforeRange(Due due) {
        LoadChecks x = Make.wide(1);
        due.refuses(x, Due.UNKNOWN, () -> x.ends(1, 0, 10_000));
        due.refuses(x, Due.UNKNOWN, () -> x.ends(0, 30, -2));
    }

    static void p13_vehiclesThatThereAre(Due due) {
        LoadChecks x = Make.ready();
        x.item(5, 0, 50);
        due.refusesOutside(0, 1, x, Due.UNKNOWN, vehicle -> x.battery(vehicle, 5, 0));
        due.passes(() -> x.battery(1, 5, 49));
        due.answers(0, () -> x.ready(0));
        due.answers(5, () -> x.ready(1));
        due.passes(() -> x.battery(0, 5, 49));
        due.answers(5, () -> x.ready(0));
    }

    static void p13_items0To29(Due due) {
        LoadChecks x = Make.ready();
        x.item(0, 0, 50);
        x.item(29, 0, 50);
        x.list(0, 0, 0, 1);
        x.list(0, 7, 29, 1);
        x.put(0, 0, 0, 1);
        x.put(0, 7, 29, 1);
        due.refusesOutside(0, 29, x, Due.UNKNOWN, item -> x.battery(0, item, 0));
        due.passes(() -> x.battery(0, 0, 49));
        due.answers(5, () -> x.ready(0));
        due.passes(() -> x.battery(0, 0, 50));
        due.answers(0, () -> x.ready(0));
        due.passes(() -> x.battery(0, 29, 49));
        due.answers(5, () -> x.ready(0));
    }

    static void p13_percent0To100(Due due) {
        LoadChecks x = Make.ready();
        due.refusesOutside(0, 100, x, Due.RANGE, percent -> x.battery(0, 5, percent));
        x.item(5, 0, 1);
        due.passes(() -> x.battery(0, 5, 0));
        due.answers(5, () -> x.ready(0));
        x.item(5, 0, 100);
        due.passes(() -> x.battery(0, 5, 99));
        due.answers(5, () -> x.ready(0));
        due.passes(() -> x.battery(0, 5, 100));
        due.answers(0, () -> x.ready(0));
    }

    static void p13_100AtFirst(Due due) {
        LoadChecks x = Make.ready();
        x.item(5, 0, 100);
        due.answers(0, () -> x.ready(0));
    }

    static void p13_asMuchAsTheLeastIsEnough(Due due) {
        LoadChecks x = Make.ready();
        x.item(5, 0, 60);
        x.battery(0, 5, 60);
        due.answers(0, () -> x.ready(0));
        x.battery(0, 5, 59);
        due.answers(5, () -> x.ready(0));
        x.item(5, 0, 59);
        due.answers(0, () -> x.ready(0));
    }

    static void p13_ofWhatItDoesNotNeed(Due due) {
        LoadChecks x = Make.ready();
        for (int item : new int[] {4, 6}) {
            x.item(item, 0, 100);
            x.put(0, 2, item, 1);
            x.battery(0, item, 0);
        }
        due.answers(0, () -> x.ready(0));
    }

    static void p13_unknownBeforeRange(Due due) {
        LoadChecks x = Make.wide(1);
        due.refuses(x, Due.UNKNOWN, () -> x.battery(1, 0, 101));
        due.refuses(x, Due.UNKNOWN, () -> x.battery(0, 30, -1));
    }

    static void p14_vehiclesThatThereAre(Due due) {
        LoadChecks x = Make.ready();
        due.refusesOutside(0, 1, x, Due.UNKNOWN, vehicle -> x.seal(vehicle, 0, false));
        due.passes(() -> x.seal(1, 0, false));
        due.answers(0, () -> x.ready(0));
        due.answers(3, () -> x.ready(1));
        due.passes(() -> x.seal(0, 0, false));
        due.answers(3, () -> x.ready(0));
    }

    static void p14_cupboards0To7(Due due) {
        LoadChecks x = Make.ready();
        due.refusesOutside(0, 7, x, Due.UNKNOWN, cupboard -> x.seal(0, cupboard, false));
        due.refusesOutside(0, 7, x, Due.UNKNOWN, cupboard -> x.seal(0, cupboard, true));
        for (int i = 0; i < 8; i++) {
            int cupboard = i;
            due.passes(() -> x.seal(0, cupboard, false));
            due.answers(3, () -> x.ready(0));
            due.passes(() -> x.seal(0, cupboard, true));
            due.answers(0, () -> x.ready(0));
        }
    }

    static void p14_wholeAtFirst(Due due) {
        LoadChecks x = Make.wide(16);
        for (int i = 0; i < 8; i++) {
            int cupboard = i;
            due.refuses(x, Due.STATE, () -> x.seal(0, cupboard, true));
            due.refuses(x, Due.STATE, () -> x.seal(15, cupboard, true));
        }
    }

    static void p14_brokenDoesNotBreakAgain(Due due) {
        LoadChecks x = Make.wide(1);
        due.passes(() -> x.seal(0, 3, false));
        due.refuses(x, Due.STATE, () -> x.seal(0, 3, false));
        due.passes(() -> x.seal(0, 3, true));
        due.refuses(x, Due.STATE, () -> x.seal(0, 3, true));
        due.passes(() -> x.seal(0, 3, false));
    }

    static void p14_allMustBeWhole(Due due) {
        LoadChecks x = Make.ready();
        for (int cupboard = 0; cupboard < 8; cupboard++) {
            x.seal(0, cupboard, false);
        }
        for (int i = 0; i < 8; i++) {
            due.answers(3, () -> x.ready(0));
            x.seal(0, i, true);
        }
        due.answers(0, () -> x.ready(0));
    }

    static void p14_cupboardsOpenAllTheSame(Due due) {
        LoadChecks x = Make.wide(2);
        x.seal(0, 0, false);
        x.list(0, 0, 0, 1);
        x.stock(0, 1);
        due.passes(() -> x.place(0, 0, 1));
        due.answers(1, () -> x.replace(0));
        due.answers(2, () -> x.put(0, 0, 0, 1));
        due.passes(() -> x.swap(0, 1, 0, 0, 1));
        due.answers(0, () -> x.use(0, 0, 0, 1));
        due.refuses(x, Due.STATE, () -> x.seal(0, 0, false));
    }

    static void p15_vehiclesThatThereAre(Due due) {
        LoadChecks x = Make.wide(2);
        due.refusesOutside(0, 1, x, Due.UNKNOWN, vehicle -> x.check(vehicle));
        due.passes(() -> x.check(1));
        due.answers(1, () -> x.ready(0));
        due.answers(0, () -> x.ready(1));
        due.passes(() -> x.check(0));
        due.answers(0, () -> x.ready(0));
    }

    static void p15_noneAtFirst(Due due) {
        LoadChecks x = Make.wide(1);
        due.answers(1, () -> x.ready(0));
        x.now(0, 0);
        due.answers(1, () -> x.ready(0));
        x.now(9_999, 2);
        due.answers(1, () -> x.ready(0));
    }

    static void p15_twiceInOneShift(Due due) {
        LoadChecks x = Make.wide(1);
        due.passes(() -> x.check(0));
        due.passes(() -> x.check(0));
        due.answers(0, () -> x.ready(0));
    }

    static void p15_ofTheShiftBefore(Due due) {
        LoadChecks x = Make.wide(1);
        x.check(0);
        x.now(0, 1);
        due.answers(1, () -> x.ready(0));
        x.check(0);
        due.answers(0, () -> x.ready(0));
        x.now(0, 2);
        due.answers(1, () -> x.ready(0));
    }

    static void p15_ofTheSameShiftOfAnotherDay(Due due) {
        LoadChecks x = Make.wide(1);
        x.now(3, 1);
        x.check(0);
        x.now(4, 1);
        due.answers(1, () -> x.ready(0));
        x.check(0);
        due.answers(0, () -> x.ready(0));
    }

    static void p15_holdsForTheShiftThatGoesOn(Due due) {
        LoadChecks x = Make.wide(1);
        x.now(9_999, 2);
        x.check(0);
        x.now(9_999, 2);
        due.answers(0, () -> x.ready(0));
    }

    static void p15_changesNothingElse(Due due) {
        LoadChecks x = Make.ready();
        x.check(0);
        String before = State.of(x);
        x.check(0);
        due.holds("a second check in one shift changes the object", State.of(x).equals(before));
    }

    static void p16_days0To9999(Due due) {
        LoadChecks x = Make.ready();
        due.refusesOutside(0, 9_999, x, Due.RANGE, day -> x.now(day, 0));
        due.passes(() -> x.now(0, 0));
        due.answers(0, () -> x.ready(0));
        due.passes(() -> x.now(9_999, 0));
        due.answers(1, () -> x.ready(0));
        x.check(0);
        x.ends(0, 5, 9_999);
        due.answers(4, () -> x.ready(0));
        due.refuses(x, Due.RANGE, () -> x.now(10_000, 0));
    }

    static void p16_shifts0To2(Due due) {
        LoadChecks x = Make.ready();
        due.refusesOutside(0, 2, x, Due.RANGE, shift -> x.now(0, shift));
        due.refusesOutside(0, 2, x, Due.RANGE, shift -> x.now(1, shift));
        due.passes(() -> x.now(0, 0));
        due.answers(0, () -> x.ready(0));
        due.passes(() -> x.now(0, 2));
        due.answers(1, () -> x.ready(0));
        due.refuses(x, Due.RANGE, () -> x.now(0, 3));
    }

    static void p16_theSameAgain(Due due) {
        LoadChecks x = Make.wide(1);
        x.now(5, 1);
        x.check(0);
        due.passes(() -> x.now(5, 1));
        due.answers(0, () -> x.ready(0));
    }

    static void p16_anEarlierShiftOfTheDay(Due due) {
        LoadChecks x = Make.wide(1);
        x.now(5, 1);
        due.refuses(x, Due.RANGE, () -> x.now(5, 0));
        due.passes(() -> x.now(5, 2));
        due.refuses(x, Due.RANGE, () -> x.now(5, 1));
        due.refuses(x, Due.RANGE, () -> x.now(5, 0));
    }

    static void p16_aLaterShiftOfAnEarlierDay(Due due) {
        LoadChecks x = Make.wide(1);
        x.now(5, 0);
        due.refuses(x, Due.RANGE, () -> x.now(4, 2));
        due.refuses(x, Due.RANGE, () -> x.now(0, 0));
    }

    static void p16_anEarlierShiftOfALaterDay(Due due) {
        LoadChecks x = Make.wide(1);
        x.now(5, 2);
        x.check(0);
        due.passes(() -> x.now(6, 0));
        due.answers(1, () -> x.ready(0));
        due.refuses(x, Due.RANGE, () -> x.now(5, 2));
    }

    static void p16_theLastShiftOfAll(Due due) {
        LoadChecks x = Make.wide(1);
        due.passes(() -> x.now(9_999, 2));
        due.passes(() -> x.now(9_999, 2));
        due.refuses(x, Due.RANGE, () -> x.now(9_999, 1));
        due.refuses(x, Due.RANGE, () -> x.now(9_999, 3));
        due.refuses(x, Due.RANGE, () -> x.now(10_000, 0));
    }

    static void p16_aRefusedShiftKeepsTheDay(Due due) {
        LoadChecks x = Make.ready();
        due.refuses(x, Due.RANGE, () -> x.now(7, 3));
        due.answers(0, () -> x.ready(0));
        due.passes(() -> x.now(0, 0));
    }
}
