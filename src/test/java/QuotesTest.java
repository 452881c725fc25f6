/** Promises 19 to 22: quotes and their approval. */
public final class QuotesTest {
    public static void main(String[] args) {
        making();
        makingTooMany();
        makingForEnded();
        approving();
        approvers();
        approvingOfEnded();
        countingLast();
        countingOfEnded();
        waitingOnes();
        Check.end();
    }

    /** Sellers 0, 1 below 0, 2 below 1, and 3 alone, with the limits 40, 20, 5 and 99. */
    private static SalesDesk desk() {
        SalesDesk x = new SalesDesk();
        x.addAccount(-1, 0, 0);
        x.addSeller(-1, 40);
        x.addSeller(0, 20);
        x.addSeller(1, 5);
        x.addSeller(-1, 99);
        x.addChance(0, 2, 1000);
        x.addChance(0, 2, 1000);
        return x;
    }

    private static void making() {
        SalesDesk x = desk();
        Check.fails("quote(2, 0, 0)", Check.INDEX, () -> x.quote(2, 0, 0));
        Check.fails("quote(-1, 0, 0)", Check.INDEX, () -> x.quote(-1, 0, 0));
        Check.fails("quote(0, 4, 0)", Check.INDEX, () -> x.quote(0, 4, 0));
        Check.fails("quote(0, -1, 100)", Check.INDEX, () -> x.quote(0, -1, 100));
        Check.fails("quote(0, 0, -1)", Check.RANGE, () -> x.quote(0, 0, -1));
        Check.fails("quote(0, 0, 100)", Check.RANGE, () -> x.quote(0, 0, 100));
        Check.fails("counting(0)", Check.NOTHING_THERE, () -> x.counting(0));
        Check.due("waiting()", 0, x.waiting());
        Check.due("quote(0, 2, 0)", 0, x.quote(0, 2, 0));
        Check.due("quote(0, 2, 5)", 1, x.quote(0, 2, 5));
        Check.due("counting(0), the limit reached", 1, x.counting(0));
        Check.due("quote(0, 2, 6)", 2, x.quote(0, 2, 6));
        Check.due("counting(0), that one waits", 1, x.counting(0));
        Check.due("quote(1, 3, 99)", 3, x.quote(1, 3, 99));
        Check.due("counting(1), by a seller without share", 3, x.counting(1));
        Check.due("worth(1)", 10, x.worth(1));
        Check.due("waiting()", 1, x.waiting());
    }

    private static void makingTooMany() {
        SalesDesk x = desk();
        for (int i = 0; i < 40; i++) {
            Check.due("quote(0, 2, i)", i, x.quote(i % 2, 2, i));
        }
        Check.fails("the quote 40", Check.STATE, () -> x.quote(0, 2, 0));
        Check.fails("the quote 40, wrong discount", Check.RANGE, () -> x.quote(0, 2, 100));
        Check.fails("the quote 40, wrong seller", Check.INDEX, () -> x.quote(0, 4, 100));
        Check.due("waiting()", 34, x.waiting());
        Check.due("counting(0)", 4, x.counting(0));
        Check.failsToRun("approve(40, 0)", Check.INDEX, () -> x.approve(40, 0));
        x.approve(39, 0);
        Check.due("counting(1)", 39, x.counting(1));
        x.move(0, 5);
        Check.fails("the quote 40, waiting ones gone", Check.STATE, () -> x.quote(1, 2, 0));
    }

    /** Wins a chance from stage 0 that has a quote that counts. */
    private static void win(SalesDesk x, int chance) {
        for (int stage = 1; stage <= 4; stage++) {
            x.move(chance, stage);
        }
    }

    private static void makingForEnded() {
        SalesDesk x = desk();
        x.quote(0, 2, 1);
        win(x, 0);
        x.move(1, 5);
        Check.fails("quote for a won one", Check.STATE, () -> x.quote(0, 2, 2));
        Check.fails("quote for a lost one", Check.STATE, () -> x.quote(1, 2, 2));
        Check.fails("quote for a lost one, wrong discount", Check.RANGE, () -> x.quote(1, 2, 100));
        Check.fails("quote for a lost one, wrong seller", Check.INDEX, () -> x.quote(1, 4, 100));
        Check.due("counting(0)", 0, x.counting(0));
        Check.due("worth(0)", 990, x.worth(0));
        Check.failsToRun("approve(1, 0), it was not made", Check.INDEX, () -> x.approve(1, 0));
        x.addChance(0, 0, 10);
        Check.due("the next quote", 1, x.quote(2, 2, 1));
    }

    private static void approving() {
        SalesDesk x = desk();
        Check.failsToRun("approve(0, 0) of none", Check.INDEX, () -> x.approve(0, 0));
        x.quote(0, 2, 5);
        x.quote(0, 2, 6);
        Check.failsToRun("approve(-1, 0)", Check.INDEX, () -> x.approve(-1, 0));
        Check.failsToRun("approve(2, 0)", Check.INDEX, () -> x.approve(2, 0));
        Check.failsToRun("approve(1, -1)", Check.INDEX, () -> x.approve(1, -1));
        Check.failsToRun("approve(1, 4)", Check.INDEX, () -> x.approve(1, 4));
        Check.failsToRun("approve(0, 4), it is approved", Check.INDEX, () -> x.approve(0, 4));
        Check.failsToRun("approve(0, 1), it is approved", Check.STATE, () -> x.approve(0, 1));
        Check.failsToRun("approve(1, 2), its maker", Check.STATE, () -> x.approve(1, 2));
        Check.failsToRun("approve(1, 3), not above", Check.STATE, () -> x.approve(1, 3));
        Check.due("waiting()", 1, x.waiting());
        Check.due("counting(0)", 0, x.counting(0));
        x.approve(1, 1);
        Check.due("waiting()", 0, x.waiting());
        Check.due("counting(0)", 1, x.counting(0));
        Check.failsToRun("approve(1, 1) again", Check.STATE, () -> x.approve(1, 1));
        Check.failsToRun("approve(1, 0), approved by another", Check.STATE, () -> x.approve(1, 0));
    }

    private static void approvers() {
        SalesDesk x = desk();
        x.quote(0, 2, 20);
        x.quote(0, 2, 21);
        x.quote(0, 2, 40);
        x.quote(0, 2, 41);
        x.quote(0, 0, 41);
        x.quote(0, 1, 30);
        x.approve(0, 1);
        Check.due("counting(0), the limit of 1 reached", 0, x.counting(0));
        Check.failsToRun("approve(1, 1), more than its limit", Check.STATE, () -> x.approve(1, 1));
        Check.due("counting(0)", 0, x.counting(0));
        x.approve(1, 0);
        Check.due("counting(0), by one two above", 1, x.counting(0));
        x.approve(2, 0);
        Check.due("counting(0), the limit of 0 reached", 2, x.counting(0));
        Check.failsToRun("approve(3, 0), more than its limit", Check.STATE, () -> x.approve(3, 0));
        Check.failsToRun("approve(4, 3), nobody above", Check.STATE, () -> x.approve(4, 3));
        Check.failsToRun("approve(5, 2), one below", Check.STATE, () -> x.approve(5, 2));
        Check.due("waiting()", 3, x.waiting());
        x.approve(5, 0);
        Check.due("counting(0)", 5, x.counting(0));
    }

    private static void approvingOfEnded() {
        SalesDesk x = desk();
        x.quote(0, 2, 1);
        x.quote(0, 2, 10);
        x.quote(1, 2, 10);
        win(x, 0);
        x.move(1, 5);
        Check.failsToRun("approve for a won one", Check.STATE, () -> x.approve(1, 0));
        Check.failsToRun("approve for a lost one", Check.STATE, () -> x.approve(2, 0));
        Check.failsToRun("approve for a lost one, no seller", Check.INDEX, () -> x.approve(2, 4));
        Check.due("counting(0)", 0, x.counting(0));
        Check.fails("counting(1)", Check.NOTHING_THERE, () -> x.counting(1));
    }

    private static void countingLast() {
        SalesDesk x = desk();
        Check.fails("counting(2)", Check.INDEX, () -> x.counting(2));
        Check.fails("counting(-1)", Check.INDEX, () -> x.counting(-1));
        x.quote(0, 2, 10);
        x.quote(0, 2, 15);
        x.quote(0, 2, 3);
        Check.due("counting(0)", 2, x.counting(0));
        x.approve(1, 1);
        Check.due("counting(0), the last approved", 1, x.counting(0));
        x.approve(0, 1);
        Check.due("counting(0), made first and approved last", 0, x.counting(0));
        Check.due("worth(0)", 900, x.worth(0));
        x.quote(0, 0, 0);
        Check.due("counting(0), no discount counts too", 3, x.counting(0));
        Check.due("worth(0)", 1000, x.worth(0));
        Check.fails("counting(1)", Check.NOTHING_THERE, () -> x.counting(1));
    }

    private static void countingOfEnded() {
        SalesDesk x = desk();
        x.quote(0, 2, 3);
        x.quote(1, 2, 4);
        win(x, 0);
        x.move(1, 5);
        Check.due("counting(0), won", 0, x.counting(0));
        Check.due("counting(1), lost", 1, x.counting(1));
    }

    private static void waitingOnes() {
        SalesDesk x = desk();
        x.quote(0, 2, 30);
        x.quote(1, 2, 30);
        x.quote(1, 2, 31);
        Check.due("waiting()", 3, x.waiting());
        x.move(1, 5);
        Check.due("waiting(), one chance lost", 1, x.waiting());
        x.quote(0, 2, 1);
        Check.due("waiting()", 1, x.waiting());
        win(x, 0);
        Check.due("waiting(), the other one won", 0, x.waiting());
    }
}
