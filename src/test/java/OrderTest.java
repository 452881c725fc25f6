import java.util.function.Supplier;

/** Where several exceptions apply, the one that is documented first is thrown. */
public final class OrderTest {
    private static final Class<?> INDEX = Check.INDEX;
    private static final Class<?> RANGE = Check.RANGE;
    private static final Class<?> STATE = Check.STATE;
    private static final Supplier<SalesDesk> MIXED = Desks.MIXED;
    private static final Supplier<SalesDesk> FULL = Desks.FULL;

    public static void main(String[] args) {
        days();
        accounts();
        rules();
        exceptionsAndAdjustments();
        sellers();
        chances();
        sharesOfNone();
        sharesInRange();
        moves();
        questions();
        quotes();
        approvals();
        Check.end();
    }

    private static void first(String words, Supplier<SalesDesk> desk, Class<?> kind,
            Refused.On call) {
        Refused.refused(words, desk, kind, call);
    }

    private static void days() {
        first("2, days 0, before later than 100000", FULL, RANGE, x -> x.pass(0));
        first("2, days -1, before later than 100000", FULL, RANGE, x -> x.pass(-1));
        first("2, days 1001, before later than 100000", FULL, RANGE, x -> x.pass(1001));
        first("2, most days, before later than 100000", FULL, RANGE,
                x -> x.pass(Integer.MAX_VALUE));
        first("2, days 1001, before later, on the day before", Desks.ALMOST_FULL, RANGE,
                x -> x.pass(1001));
    }

    private static void accounts() {
        first("3, above, before area", MIXED, INDEX, x -> x.addAccount(3, 10, 0));
        first("3, above, before size", MIXED, INDEX, x -> x.addAccount(3, 0, 10));
        first("3, above -2, before area -1", MIXED, INDEX, x -> x.addAccount(-2, -1, 0));
        first("3, above -2, before size -1", MIXED, INDEX, x -> x.addAccount(-2, 0, -1));
        first("3, above, before 16", FULL, INDEX, x -> x.addAccount(16, 0, 0));
        first("3, above -2, before 16", FULL, INDEX, x -> x.addAccount(-2, 0, 0));
        first("3, area, before 16", FULL, RANGE, x -> x.addAccount(-1, 10, 0));
        first("3, area -1, before 16", FULL, RANGE, x -> x.addAccount(-1, -1, 0));
        first("3, size, before 16", FULL, RANGE, x -> x.addAccount(15, 0, 10));
        first("3, size -1, before 16", FULL, RANGE, x -> x.addAccount(15, 0, -1));
        first("3, above, before all", FULL, INDEX, x -> x.addAccount(16, 10, 10));
    }

    private static void rules() {
        first("4, place, before first", MIXED, INDEX, x -> x.putRule(3, -1, 9, 0, 0));
        first("4, place, before last", MIXED, INDEX, x -> x.putRule(3, 5, 4, 0, 0));
        first("4, place, before last 10", MIXED, INDEX, x -> x.putRule(3, 0, 10, 0, 0));
        first("4, place, before size", MIXED, INDEX, x -> x.putRule(-1, 0, 9, 10, 0));
        first("4, place, before region", MIXED, INDEX, x -> x.putRule(-1, 0, 9, 0, 4));
        first("4, place, before 8", FULL, INDEX, x -> x.putRule(9, 0, 9, 0, 0));
        first("4, place -1, before 8", FULL, INDEX, x -> x.putRule(-1, 0, 9, 0, 0));
        first("4, first, before 8", FULL, RANGE, x -> x.putRule(0, -1, 9, 0, 0));
        first("4, last, before 8", FULL, RANGE, x -> x.putRule(0, 5, 4, 0, 0));
        first("4, last 10, before 8", FULL, RANGE, x -> x.putRule(8, 0, 10, 0, 0));
        first("4, size, before 8", FULL, RANGE, x -> x.putRule(8, 0, 9, 10, 0));
        first("4, size -1, before 8", FULL, RANGE, x -> x.putRule(8, 0, 9, -1, 0));
        first("4, region, before 8", FULL, RANGE, x -> x.putRule(0, 0, 9, 0, 4));
        first("4, region -1, before 8", FULL, RANGE, x -> x.putRule(0, 0, 9, 0, -1));
        first("4, place, before all", FULL, INDEX, x -> x.putRule(9, 10, -1, 10, 4));
    }

    private static void exceptionsAndAdjustments() {
        first("6, account, before region", MIXED, INDEX, x -> x.except(3, 4));
        first("6, account -1, before region -2", MIXED, INDEX, x -> x.except(-1, -2));
        first("9, seller, before amount", MIXED, INDEX, x -> x.adjust(3, 1000001));
        first("9, seller -1, before amount", MIXED, INDEX, x -> x.adjust(-1, -1000001));
    }

    private static void sellers() {
        first("8, above, before limit", MIXED, INDEX, x -> x.addSeller(3, 100));
        first("8, above -2, before limit -1", MIXED, INDEX, x -> x.addSeller(-2, -1));
        first("8, above, before 8", FULL, INDEX, x -> x.addSeller(8, 0));
        first("8, above -2, before 8", FULL, INDEX, x -> x.addSeller(-2, 0));
        first("8, limit, before 8", FULL, RANGE, x -> x.addSeller(-1, 100));
        first("8, limit -1, before 8", FULL, RANGE, x -> x.addSeller(7, -1));
        first("8, above, before all", FULL, INDEX, x -> x.addSeller(8, 100));
    }

    private static void chances() {
        first("10, account, before amount", MIXED, INDEX, x -> x.addChance(3, 0, 0));
        first("10, account -1, before amount", MIXED, INDEX, x -> x.addChance(-1, 0, 1000001));
        first("10, seller, before amount", MIXED, INDEX, x -> x.addChance(0, 3, 0));
        first("10, seller -1, before amount", MIXED, INDEX, x -> x.addChance(0, -1, 1000001));
        first("10, account and seller", MIXED, INDEX, x -> x.addChance(3, 3, 1));
        first("10, account, before 30", FULL, INDEX, x -> x.addChance(16, 0, 1));
        first("10, seller, before 30", FULL, INDEX, x -> x.addChance(0, 8, 1));
        first("10, amount 0, before 30", FULL, RANGE, x -> x.addChance(0, 0, 0));
        first("10, amount 1000001, before 30", FULL, RANGE, x -> x.addChance(0, 0, 1000001));
        first("10, account, before all", FULL, INDEX, x -> x.addChance(16, 0, 0));
        first("10, seller, before all", FULL, INDEX, x -> x.addChance(0, 8, 0));
    }

    // In the mixed desk chance 0 is open, 1 is won and 2 is lost; the seller 0 has none of 0.
    private static void sharesOfNone() {
        first("11, chance, before part", MIXED, INDEX, x -> x.giveShare(4, 2, 1, 0));
        first("11, chance, before the same", MIXED, INDEX, x -> x.giveShare(4, 2, 2, 1));
        first("11, from, before part", MIXED, INDEX, x -> x.giveShare(0, 3, 1, 101));
        first("11, to, before part", MIXED, INDEX, x -> x.giveShare(0, 2, 3, 0));
        first("11, from and to the same, and none", MIXED, INDEX, x -> x.giveShare(0, 3, 3, 1));
        first("11, from and to both -1", MIXED, INDEX, x -> x.giveShare(0, -1, -1, 1));
        first("11, to, before less", MIXED, INDEX, x -> x.giveShare(0, 0, 3, 1));
        first("11, to -1, before less", MIXED, INDEX, x -> x.giveShare(0, 0, -1, 1));
        first("11, from, before won", MIXED, INDEX, x -> x.giveShare(1, 3, 1, 1));
        first("11, to, before won", MIXED, INDEX, x -> x.giveShare(1, 1, 3, 1));
        first("11, from, before lost", MIXED, INDEX, x -> x.giveShare(2, -1, 1, 1));
        first("11, to, before lost", MIXED, INDEX, x -> x.giveShare(2, 0, -1, 1));
        first("11, to, before all", MIXED, INDEX, x -> x.giveShare(1, 0, 3, 0));
        first("11, from, before all", MIXED, INDEX, x -> x.giveShare(2, 3, 3, 101));
    }

    private static void sharesInRange() {
        first("11, part 101, before less", MIXED, RANGE, x -> x.giveShare(0, 2, 1, 101));
        first("11, part 0, before less", MIXED, RANGE, x -> x.giveShare(0, 0, 1, 0));
        first("11, part 101 of none, before less", MIXED, RANGE, x -> x.giveShare(0, 0, 1, 101));
        first("11, the same, before less", MIXED, RANGE, x -> x.giveShare(0, 0, 0, 1));
        first("11, the same with less", MIXED, RANGE, x -> x.giveShare(0, 2, 2, 61));
        first("11, part 0, before won", MIXED, RANGE, x -> x.giveShare(1, 1, 0, 0));
        first("11, part 101, before won", MIXED, RANGE, x -> x.giveShare(1, 1, 0, 101));
        first("11, part 0, before lost", MIXED, RANGE, x -> x.giveShare(2, 0, 1, 0));
        first("11, part 101, before lost", MIXED, RANGE, x -> x.giveShare(2, 0, 1, 101));
        first("11, the same, before won", MIXED, RANGE, x -> x.giveShare(1, 1, 1, 1));
        first("11, the same, before lost", MIXED, RANGE, x -> x.giveShare(2, 0, 0, 1));
        first("11, part and the same", MIXED, RANGE, x -> x.giveShare(0, 2, 2, 0));
        first("11, less, and won", MIXED, STATE, x -> x.giveShare(1, 0, 2, 1));
        first("11, less, and lost", MIXED, STATE, x -> x.giveShare(2, 1, 2, 1));
    }

    private static void moves() {
        first("12, chance, before stage", MIXED, INDEX, x -> x.move(4, 6));
        first("12, chance -1, before stage -1", MIXED, INDEX, x -> x.move(-1, -1));
        first("12, stage 6, before it cannot come to it, open", MIXED, RANGE, x -> x.move(0, 6));
        first("12, stage 6, before it cannot, won", MIXED, RANGE, x -> x.move(1, 6));
        first("12, stage -1, before it cannot, won", MIXED, RANGE, x -> x.move(1, -1));
        first("12, stage 6, before it cannot, lost", MIXED, RANGE, x -> x.move(2, 6));
        first("12, stage -1, before it cannot, lost", MIXED, RANGE, x -> x.move(2, -1));
    }

    private static void questions() {
        first("14, chance, before stage", MIXED, INDEX, x -> x.daysIn(4, 6));
        first("14, chance -1, before stage -1", MIXED, INDEX, x -> x.daysIn(-1, -1));
        first("17, region and stage", MIXED, RANGE, x -> x.inRegion(4, 6));
        first("17, region -1 and stage -1", MIXED, RANGE, x -> x.inRegion(-1, -1));
        first("21, chance, before none counts", MIXED, INDEX, x -> x.counting(4));
        first("21, chance -1, before none counts", MIXED, INDEX, x -> x.counting(-1));
        first("26, freeze and seller", MIXED, INDEX, x -> x.since(1, 3));
        first("26, freeze, of a seller that is there", MIXED, INDEX, x -> x.since(1, 0));
        first("26, seller, of a freeze that is there", MIXED, INDEX, x -> x.since(0, 3));
    }

    private static void quotes() {
        first("19, chance, before discount", MIXED, INDEX, x -> x.quote(4, 0, 100));
        first("19, seller, before discount", MIXED, INDEX, x -> x.quote(0, 3, 100));
        first("19, seller -1, before discount -1", MIXED, INDEX, x -> x.quote(0, -1, -1));
        first("19, chance and seller", MIXED, INDEX, x -> x.quote(4, 3, 0));
        first("19, seller, before won", MIXED, INDEX, x -> x.quote(1, 3, 0));
        first("19, seller, before lost", MIXED, INDEX, x -> x.quote(2, -1, 0));
        first("19, chance, before 40", FULL, INDEX, x -> x.quote(30, 0, 0));
        first("19, seller, before 40", FULL, INDEX, x -> x.quote(2, 8, 0));
        first("19, discount, before won", MIXED, RANGE, x -> x.quote(1, 0, 100));
        first("19, discount -1, before won", MIXED, RANGE, x -> x.quote(1, 0, -1));
        first("19, discount, before lost", MIXED, RANGE, x -> x.quote(2, 0, 100));
        first("19, discount -1, before lost", MIXED, RANGE, x -> x.quote(2, 0, -1));
        first("19, discount, before 40", FULL, RANGE, x -> x.quote(2, 0, 100));
        first("19, discount -1, before 40", FULL, RANGE, x -> x.quote(2, 0, -1));
        first("19, won, and 40", FULL, STATE, x -> x.quote(0, 0, 0));
        first("19, lost, and 40", FULL, STATE, x -> x.quote(1, 0, 0));
        first("19, chance, before all", FULL, INDEX, x -> x.quote(30, 0, 100));
        first("19, seller, before all", FULL, INDEX, x -> x.quote(0, 8, 100));
    }

    // In the mixed desk quote 0 is approved and won, 1 waits for an open chance, 2 for a lost one.
    private static void approvals() {
        approval("20, quote, before seller", INDEX, 3, 3);
        approval("20, quote, of a seller that is there", INDEX, 3, 0);
        approval("20, seller, before approved and won", INDEX, 0, 3);
        approval("20, seller -1, before approved and won", INDEX, 0, -1);
        approval("20, seller, before lost", INDEX, 2, 3);
        approval("20, seller -1, before lost", INDEX, 2, -1);
        approval("20, approved, won, and not above", STATE, 0, 2);
        approval("20, lost, and its maker", STATE, 2, 2);
        first("20, seller, before approved", () -> Desks.inStage(3), INDEX, x -> {
            x.approve(0, 3);
            return 0;
        });
    }

    private static void approval(String words, Class<?> kind, int quote, int seller) {
        first(words, MIXED, kind, x -> {
            x.approve(quote, seller);
            return 0;
        });
    }
}
