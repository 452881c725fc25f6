import java.util.function.Supplier;

/** Ways to make a desk for a test; each gives a new one that is like the one before. */
final class Desks {
    static final Supplier<SalesDesk> EMPTY = SalesDesk::new;
    static final Supplier<SalesDesk> MIXED = Desks::mixed;
    static final Supplier<SalesDesk> ALMOST_FULL = () -> filled(1);
    static final Supplier<SalesDesk> FULL = () -> filled(0);

    private Desks() {
    }

    /**
     * On day 15: three accounts in a chain, of the regions 3, 3 and 2; three sellers in a chain,
     * with the limits 40, 20 and 0; the chances 0, in stage 1, 1, won, 2, lost, and 3, in stage 0;
     * the quotes 0, which counts for 1, and 1 for 0 and 2 for 2, which wait; and one freeze.
     */
    private static SalesDesk mixed() {
        SalesDesk x = new SalesDesk();
        x.addAccount(-1, 3, 3);
        x.addAccount(0, 5, 5);
        x.addAccount(1, 7, 7);
        x.putRule(0, 0, 4, 2, 1);
        x.putRule(1, 5, 9, 6, 2);
        x.except(0, 3);
        x.addSeller(-1, 40);
        x.addSeller(0, 20);
        x.addSeller(1, 0);
        x.adjust(1, 17);
        for (int i = 0; i < 4; i++) {
            x.addChance(i % 3, 2 - i % 3, 1000 + i);
        }
        x.pass(3);
        x.quote(1, 0, 10);
        x.quote(0, 2, 30);
        for (int stage = 1; stage <= 4; stage++) {
            x.pass(stage);
            x.move(1, stage);
        }
        x.quote(2, 2, 15);
        x.move(2, 5);
        x.giveShare(0, 2, 1, 40);
        x.freeze();
        x.move(0, 1);
        x.pass(2);
        return x;
    }

    /**
     * On the last day, with as much of everything as there can be, or with one less of each on the
     * day before: accounts in one chain, as sellers, whose limits go down from 80 by tens; chance
     * 0 won and chance 1 lost.
     */
    private static SalesDesk filled(int less) {
        SalesDesk x = new SalesDesk();
        int accounts = 16 - less;
        int sellers = 8 - less;
        int chances = 30 - less;
        for (int i = 0; i < accounts; i++) {
            x.addAccount(i - 1, i % 10, i % 10);
        }
        for (int i = 0; i < sellers; i++) {
            x.putRule(i, i, i, 0, i % 4);
            x.addSeller(i - 1, 80 - 10 * i);
        }
        x.except(accounts - 1, 2);
        for (int i = 0; i < chances; i++) {
            x.addChance(i % accounts, i % sellers, 1000 + i);
        }
        x.pass(1);
        for (int i = 0; i < 40 - less; i++) {
            x.quote(i % chances, i % sellers, i);
        }
        for (int stage = 1; stage <= 4; stage++) {
            x.move(0, stage);
        }
        x.move(1, 5);
        for (int i = 0; i < 20 - less; i++) {
            x.freeze();
        }
        x.adjust(sellers - 1, 5);
        toDay(x, 1, 100000 - less);
        return x;
    }

    /** Passes the days from one to another in as few calls as can be. */
    static void toDay(SalesDesk x, int from, int to) {
        for (int day = from; day < to; day += 1000) {
            x.pass(Math.min(1000, to - day));
        }
    }

    /** A desk with one account and sellers that have the limits, each below the one before. */
    static SalesDesk chainOf(int... limits) {
        SalesDesk x = new SalesDesk();
        x.addAccount(-1, 0, 0);
        for (int i = 0; i < limits.length; i++) {
            x.addSeller(i - 1, limits[i]);
        }
        return x;
    }

    /** A desk whose one chance, of 1000, has come to a stage; from 3 on it has the quote 0. */
    static SalesDesk inStage(int stage) {
        SalesDesk x = chainOf(40, 20, 0);
        x.addChance(0, 2, 1000);
        bring(x, 0, stage);
        return x;
    }

    /** Brings a chance from stage 0 to another one, by a quote of no discount where it needs one. */
    static void bring(SalesDesk x, int chance, int stage) {
        if (stage == 3 || stage == 4) {
            x.quote(chance, 0, 0);
        }
        if (stage == 5) {
            x.move(chance, 5);
        }
        for (int next = 1; next <= stage && stage < 5; next++) {
            x.move(chance, next);
        }
    }
}
