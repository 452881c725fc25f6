import java.util.function.Supplier;

/** What is answered where there is nothing yet. */
public final class EmptyTest {
    private static final Supplier<SalesDesk> EMPTY = Desks.EMPTY;

    public static void main(String[] args) {
        emptyDesk();
        accountsAlone();
        sellersAlone();
        chancesAlone();
        nothingLeft();
        desksOfTheirOwn();
        Check.end();
    }

    private static void emptyDesk() {
        Refused.taken("1, the day 0", EMPTY, 1, x -> x.pass(1));
        Refused.taken("1, no account", EMPTY, 0, x -> x.addAccount(-1, 0, 0));
        Refused.taken("1, no rule", EMPTY, 1, x -> x.putRule(0, 0, 9, 0, 0));
        Refused.taken("1, no seller", EMPTY, 0, x -> x.addSeller(-1, 0));
        Refused.taken("1, no freeze", EMPTY, 0, x -> x.freeze());
        Refused.taken("22, no quote waits", EMPTY, 0, x -> x.waiting());
        Refused.taken("15, no chance is stalled", EMPTY, 0, x -> x.stalled(0));
        Refused.taken("15, no chance is stalled for long", EMPTY, 0, x -> x.stalled(100000));
        for (int region = 0; region <= 3; region++) {
            for (int stage = 0; stage <= 5; stage++) {
                int its = region;
                int in = stage;
                Refused.taken("17, no chance in region " + region + ", stage " + stage, EMPTY, 0,
                        x -> x.inRegion(its, in));
            }
        }
        none("3, above: no such account", x -> x.addAccount(0, 0, 0));
        none("4, place: no such place", x -> x.putRule(1, 0, 9, 0, 0));
        none("5, place: no such rule", x -> x.removeRule(0));
        none("6, account", x -> x.except(0, 0));
        none("6, account, no exception for it", x -> x.except(0, -1));
        none("7, account", x -> x.regionOf(0));
        none("8, above: no such seller", x -> x.addSeller(0, 0));
        none("9, seller", x -> x.adjust(0, 0));
        none("10, account and seller", x -> x.addChance(0, 0, 1));
        none("11, chance and sellers", x -> x.giveShare(0, 0, 1, 1));
        none("12, chance", x -> x.move(0, 1));
        none("13, chance", x -> x.stage(0));
        none("14, chance", x -> x.daysIn(0, 0));
        none("16, chance", x -> x.worth(0));
        none("18, account", x -> x.won(0));
        none("19, chance and seller", x -> x.quote(0, 0, 0));
        none("20, quote and seller", x -> {
            x.approve(0, 0);
            return 0;
        });
        none("21, chance", x -> x.counting(0));
        none("23, seller", x -> x.forecast(0));
        none("24, seller", x -> x.own(0));
        none("26, freeze and seller", x -> x.since(0, 0));
    }

    private static void none(String words, Refused.On call) {
        Refused.refused(words + ", of an empty desk", EMPTY, Check.INDEX, call);
        Refused.refused(words + ", of an empty desk where days went by", EmptyTest::onlyDays,
                Check.INDEX, call);
    }

    private static SalesDesk onlyDays() {
        SalesDesk x = new SalesDesk();
        x.pass(1000);
        return x;
    }

    private static SalesDesk oneAccount() {
        SalesDesk x = new SalesDesk();
        x.addAccount(-1, 9, 9);
        return x;
    }

    private static void accountsAlone() {
        Supplier<SalesDesk> one = EmptyTest::oneAccount;
        Refused.taken("7, no exception, no rule and none above: region 0", one, 0,
                x -> x.regionOf(0));
        Refused.taken("18, no chance", one, 0, x -> x.won(0));
        Refused.taken("6, no exception before", one, -1, x -> x.except(0, 3));
        Refused.taken("6, none taken away", one, -1, x -> x.except(0, -1));
        Refused.refused("10, no seller", one, Check.INDEX, x -> x.addChance(0, 0, 1));
        Refused.refused("3, above: the account itself", one, Check.INDEX,
                x -> x.addAccount(1, 0, 0));
        Refused.refused("7, the account after it", one, Check.INDEX, x -> x.regionOf(1));
    }

    private static SalesDesk oneSeller() {
        SalesDesk x = new SalesDesk();
        x.addSeller(-1, 99);
        return x;
    }

    private static void sellersAlone() {
        Supplier<SalesDesk> one = EmptyTest::oneSeller;
        Refused.taken("24, no chance", one, 0, x -> x.own(0));
        Refused.taken("23, no chance and none below", one, 0, x -> x.forecast(0));
        Refused.taken("9, the adjustment is 0 at first", one, 0, x -> x.adjust(0, 1));
        Refused.refused("10, no account", one, Check.INDEX, x -> x.addChance(0, 0, 1));
        Refused.refused("8, above: the seller itself", one, Check.INDEX, x -> x.addSeller(1, 0));
        Refused.refused("26, no freeze", one, Check.INDEX, x -> x.since(0, 0));
        Check.sentence("26, a freeze of no seller", () -> {
            SalesDesk x = new SalesDesk();
            Check.due("freeze()", 0, x.freeze());
            Check.fails("since(0, 0)", Check.INDEX, () -> x.since(0, 0));
            x.addSeller(-1, 0);
            Check.due("since(0, 0)", 0, x.since(0, 0));
            x.adjust(0, -3);
            Check.due("since(0, 0), of a seller added later", -3, x.since(0, 0));
        });
    }

    private static void chancesAlone() {
        Supplier<SalesDesk> one = () -> Desks.inStage(0);
        Refused.refused("21, if none counts: no quote", one, Check.NOTHING_THERE,
                x -> x.counting(0));
        Refused.refused("20, no quote", one, Check.INDEX, x -> {
            x.approve(0, 0);
            return 0;
        });
        Refused.taken("16, no quote: its amount", one, 1000, x -> x.worth(0));
        Refused.taken("12, no day in the stage", one, 0, x -> x.move(0, 1));
        for (int stage = 0; stage <= 5; stage++) {
            int in = stage;
            Refused.taken("14, no day in stage " + stage, one, 0, x -> x.daysIn(0, in));
        }
        Refused.taken("18, no chance is won", one, 0, x -> x.won(0));
        Refused.taken("22, no quote", one, 0, x -> x.waiting());
        Refused.refused("21, if none counts: the only one waits", () -> {
            SalesDesk x = Desks.inStage(0);
            x.quote(0, 2, 1);
            return x;
        }, Check.NOTHING_THERE, x -> x.counting(0));
        Refused.refused("21, if none counts: that of another chance", () -> {
            SalesDesk x = Desks.inStage(3);
            x.addChance(0, 0, 1);
            return x;
        }, Check.NOTHING_THERE, x -> x.counting(1));
        Refused.refused("21, if none counts: the chance is lost", () -> Desks.inStage(5),
                Check.NOTHING_THERE, x -> x.counting(0));
    }

    private static void nothingLeft() {
        Check.sentence("5, the last rule taken away leaves none", () -> {
            SalesDesk x = oneAccount();
            x.putRule(0, 0, 9, 0, 2);
            Check.due("regionOf(0)", 2, x.regionOf(0));
            Check.due("removeRule(0)", 0, x.removeRule(0));
            Check.due("regionOf(0)", 0, x.regionOf(0));
            Check.fails("removeRule(0)", Check.INDEX, () -> x.removeRule(0));
            Check.fails("putRule(1, ..)", Check.INDEX, () -> x.putRule(1, 0, 9, 0, 2));
        });
        Check.sentence("11, a share given away whole leaves none", () -> {
            SalesDesk x = Desks.inStage(0);
            Check.due("giveShare(0, 2, 0, 100)", 100, x.giveShare(0, 2, 0, 100));
            Check.due("own(2)", 0, x.own(2));
            Check.fails("giveShare(0, 2, 0, 1)", Check.STATE, () -> x.giveShare(0, 2, 0, 1));
        });
        Check.sentence("16, a worth of 0: 1 less 99 hundredths", () -> {
            SalesDesk x = Desks.chainOf(99);
            x.addChance(0, 0, 1);
            x.quote(0, 0, 99);
            Check.due("worth(0)", 0, x.worth(0));
            Check.due("own(0)", 0, x.own(0));
            Check.due("inRegion(0, 0)", 0, x.inRegion(0, 0));
        });
    }

    private static void desksOfTheirOwn() {
        Check.sentence("1, a new desk is empty whatever others hold", () -> {
            SalesDesk other = Desks.FULL.get();
            SalesDesk x = new SalesDesk();
            Check.due("pass(1)", 1, x.pass(1));
            Check.due("addAccount(-1, 0, 0)", 0, x.addAccount(-1, 0, 0));
            Check.due("regionOf(0)", 0, x.regionOf(0));
            Check.due("addSeller(-1, 0)", 0, x.addSeller(-1, 0));
            Check.due("forecast(0)", 0, x.forecast(0));
            Check.due("addChance(0, 0, 1)", 0, x.addChance(0, 0, 1));
            Check.due("quote(0, 0, 0)", 0, x.quote(0, 0, 0));
            Check.due("freeze()", 0, x.freeze());
            Check.due("waiting() of the other", 6, other.waiting());
        });
    }
}
