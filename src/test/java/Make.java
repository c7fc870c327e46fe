/** Objects that many cases begin with. */
final class Make {
    /** The most that a limit of an axle can be, in grams. */
    static final int WIDE = 20_000_000;

    private Make() {
    }

    /** So many vehicles of kind 0, wheelbase 1,000, with the widest limits. */
    static LoadChecks wide(int vehicles) {
        LoadChecks x = new LoadChecks();
        for (int i = 0; i < vehicles; i++) {
            x.vehicle(0, 1_000, WIDE, WIDE);
        }
        return x;
    }

    /**
     * One vehicle of kind 0, wheelbase 1,000, with these limits. Cupboard 0 is over the front axle, 1 over the rear,
     * 2 as far before the front, 3 as far behind the rear. Item 0 weighs 1 gram, item 1 weighs 100.
     */
    static LoadChecks limited(int front, int rear) {
        LoadChecks x = new LoadChecks();
        addLimited(x, front, rear);
        x.item(0, 1, 0);
        x.item(1, 100, 0);
        return x;
    }

    /** One more vehicle as that of limited. */
    static int addLimited(LoadChecks x, int front, int rear) {
        int vehicle = x.vehicle(0, 1_000, front, rear);
        x.place(vehicle, 1, 1_000);
        x.place(vehicle, 2, -1_000);
        x.place(vehicle, 3, 2_000);
        return vehicle;
    }

    /** Two vehicles of kind 0, checked in the present shift, that need one of item 5 in cupboard 2 and have it. */
    static LoadChecks ready() {
        LoadChecks x = wide(2);
        x.list(0, 2, 5, 1);
        for (int vehicle = 0; vehicle < 2; vehicle++) {
            x.put(vehicle, 2, 5, 1);
            x.check(vehicle);
        }
        return x;
    }
}
