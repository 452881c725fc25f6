import java.util.ArrayList;
import java.util.NoSuchElementException;

/**
 * A desk of sales in progress: accounts in trees, regions by rules, chances with stages,
 * shares between sellers, quotes that have to be approved, and forecasts in layers.
 */
public final class SalesDesk {

    private static final int NONE = -1;

    private static final int MOST_ACCOUNTS = 16;
    private static final int MOST_RULES = 8;
    private static final int MOST_SELLERS = 8;
    private static final int MOST_CHANCES = 30;
    private static final int MOST_QUOTES = 40;
    private static final int MOST_FREEZES = 20;

    private static final int LAST_DAY = 100000;
    private static final int MOST_DAYS_AT_ONCE = 1000;
    private static final int LAST_AREA = 9;
    private static final int LARGEST_SIZE = 9;
    private static final int LAST_REGION = 3;
    private static final int MOST_MONEY = 1000000;
    private static final int WHOLE = 100;
    private static final int MOST_DISCOUNT = 99;

    private static final int QUOTED = 3;
    private static final int WON = 4;
    private static final int LOST = 5;
    private static final int STAGES = 6;
    private static final int[] WEIGHTS = {10, 30, 60, 90, 100, 0};

    private final ArrayList<Account> accounts = new ArrayList<Account>();
    private final ArrayList<Rule> rules = new ArrayList<Rule>();
    private final ArrayList<Seller> sellers = new ArrayList<Seller>();
    private final ArrayList<Chance> chances = new ArrayList<Chance>();
    private final ArrayList<Quote> quotes = new ArrayList<Quote>();
    private final ArrayList<Freeze> freezes = new ArrayList<Freeze>();
    private int today = 0;

    public SalesDesk() {
    }

    // ---- days, accounts, regions

    public int pass(int days) throws IllegalArgumentException, IllegalStateException {
        requireRange(days, 1, MOST_DAYS_AT_ONCE);
        if (days > LAST_DAY - today) {
            throw new IllegalStateException("it would be later than the last day");
        }
        today += days;
        return today;
    }

    public int addAccount(int above, int area, int size)
            throws IndexOutOfBoundsException, IllegalArgumentException, IllegalStateException {
        Account accountAbove = above == NONE ? null : accountAt(above);
        requireRange(area, 0, LAST_AREA);
        requireRange(size, 0, LARGEST_SIZE);
        requireRoom(accounts.size(), MOST_ACCOUNTS);
        accounts.add(new Account(accountAbove, area, size));
        return accounts.size() - 1;
    }

    public int putRule(int place, int first, int last, int size, int region)
            throws IndexOutOfBoundsException, IllegalArgumentException, IllegalStateException {
        if (place < 0 || place > rules.size()) {
            throw new IndexOutOfBoundsException("there is no such place");
        }
        requireRange(first, 0, LAST_AREA);
        requireRange(last, first, LAST_AREA);
        requireRange(size, 0, LARGEST_SIZE);
        requireRange(region, 0, LAST_REGION);
        requireRoom(rules.size(), MOST_RULES);
        rules.add(place, new Rule(first, last, size, region));
        return rules.size();
    }

    public int removeRule(int place) throws IndexOutOfBoundsException {
        if (place < 0 || place >= rules.size()) {
            throw new IndexOutOfBoundsException("there is no such rule");
        }
        rules.remove(place);
        return rules.size();
    }

    public int except(int account, int region)
            throws IndexOutOfBoundsException, IllegalArgumentException {
        Account told = accountAt(account);
        requireRange(region, NONE, LAST_REGION);
        int before = told.exception;
        told.exception = region;
        return before;
    }

    public int regionOf(int account) throws IndexOutOfBoundsException {
        return regionNow(accountAt(account));
    }

    // ---- sellers

    public int addSeller(int above, int limit)
            throws IndexOutOfBoundsException, IllegalArgumentException, IllegalStateException {
        Seller sellerAbove = above == NONE ? null : sellerAt(above);
        requireRange(limit, 0, MOST_DISCOUNT);
        requireRoom(sellers.size(), MOST_SELLERS);
        sellers.add(new Seller(sellers.size(), sellerAbove, limit));
        return sellers.size() - 1;
    }

    public int adjust(int seller, int amount)
            throws IndexOutOfBoundsException, IllegalArgumentException {
        Seller adjusted = sellerAt(seller);
        requireRange(amount, -MOST_MONEY, MOST_MONEY);
        int before = adjusted.adjustment;
        adjusted.adjustment = amount;
        return before;
    }

    // ---- chances

    public int addChance(int account, int seller, int amount)
            throws IndexOutOfBoundsException, IllegalArgumentException, IllegalStateException {
        Account buyer = accountAt(account);
        Seller holder = sellerAt(seller);
        requireRange(amount, 1, MOST_MONEY);
        requireRoom(chances.size(), MOST_CHANCES);
        Chance added = new Chance(buyer, amount, today);
        addTo(added.shares, holder.number, WHOLE);
        chances.add(added);
        return chances.size() - 1;
    }

    public int giveShare(int chance, int from, int to, int part)
            throws IndexOutOfBoundsException, IllegalArgumentException, IllegalStateException {
        Chance shared = chanceAt(chance);
        Seller giver = sellerAt(from);
        Seller taker = sellerAt(to);
        requireRange(part, 1, WHOLE);
        if (giver == taker) {
            throw new IllegalArgumentException("both sellers are the same");
        }
        requireOpen(shared);
        if (at(shared.shares, giver.number) < part) {
            throw new IllegalStateException("the seller has less");
        }
        addTo(shared.shares, giver.number, -part);
        addTo(shared.shares, taker.number, part);
        return at(shared.shares, taker.number);
    }

    public int move(int chance, int stage)
            throws IndexOutOfBoundsException, IllegalArgumentException, IllegalStateException {
        Chance moved = chanceAt(chance);
        requireStage(stage);
        if (!canCome(moved, stage)) {
            throw new IllegalStateException("the chance cannot come to this stage");
        }
        int days = today - moved.cameOn;
        addTo(moved.daysBefore, moved.stage, days);
        moved.stage = stage;
        moved.cameOn = today;
        if (!isOpen(moved)) {
            moved.keptRegion = regionNow(moved.account);
        }
        return days;
    }

    public int stage(int chance) throws IndexOutOfBoundsException {
        return chanceAt(chance).stage;
    }

    public int daysIn(int chance, int stage)
            throws IndexOutOfBoundsException, IllegalArgumentException {
        Chance asked = chanceAt(chance);
        requireStage(stage);
        int days = at(asked.daysBefore, stage);
        return asked.stage == stage ? days + today - asked.cameOn : days;
    }

    public int stalled(int days) throws IllegalArgumentException {
        requireRange(days, 0, LAST_DAY);
        int count = 0;
        for (int i = 0; i < chances.size(); i++) {
            Chance chance = chances.get(i);
            if (isOpen(chance) && today - chance.cameOn > days) {
                count++;
            }
        }
        return count;
    }

    public int worth(int chance) throws IndexOutOfBoundsException {
        return worthNow(chanceAt(chance));
    }

    public int inRegion(int region, int stage) throws IllegalArgumentException {
        requireRange(region, 0, LAST_REGION);
        requireStage(stage);
        int sum = 0;
        for (int i = 0; i < chances.size(); i++) {
            Chance chance = chances.get(i);
            if (chance.stage == stage && regionFor(chance) == region) {
                sum += worthNow(chance);
            }
        }
        return sum;
    }

    public int won(int account) throws IndexOutOfBoundsException {
        Account top = accountAt(account);
        int sum = 0;
        for (int i = 0; i < chances.size(); i++) {
            Chance chance = chances.get(i);
            if (chance.stage == WON && isInTree(chance.account, top)) {
                sum += worthNow(chance);
            }
        }
        return sum;
    }

    // ---- quotes

    public int quote(int chance, int seller, int discount)
            throws IndexOutOfBoundsException, IllegalArgumentException, IllegalStateException {
        Chance quoted = chanceAt(chance);
        Seller maker = sellerAt(seller);
        requireRange(discount, 0, MOST_DISCOUNT);
        requireOpen(quoted);
        requireRoom(quotes.size(), MOST_QUOTES);
        Quote made = new Quote(quotes.size(), quoted, maker, discount);
        quotes.add(made);
        if (discount <= maker.limit) {
            letCount(made);
        }
        return made.number;
    }

    public void approve(int quote, int seller)
            throws IndexOutOfBoundsException, IllegalStateException {
        Quote asked = quoteAt(quote);
        Seller approver = sellerAt(seller);
        requireOpen(asked.chance);
        if (asked.approved || !canApprove(asked, approver)) {
            throw new IllegalStateException("the seller cannot approve the quote, or it is approved");
        }
        letCount(asked);
    }

    public int counting(int chance) throws IndexOutOfBoundsException, NoSuchElementException {
        Quote quote = chanceAt(chance).counting;
        if (quote == null) {
            throw new NoSuchElementException("no quote counts");
        }
        return quote.number;
    }

    public int waiting() {
        int count = 0;
        for (int i = 0; i < quotes.size(); i++) {
            Quote quote = quotes.get(i);
            if (!quote.approved && isOpen(quote.chance)) {
                count++;
            }
        }
        return count;
    }

    // ---- forecasts

    public int forecast(int seller) throws IndexOutOfBoundsException {
        return forecastNow(sellerAt(seller));
    }

    public int own(int seller) throws IndexOutOfBoundsException {
        return ownNow(sellerAt(seller));
    }

    public int freeze() throws IllegalStateException {
        requireRoom(freezes.size(), MOST_FREEZES);
        Freeze made = new Freeze();
        for (int i = 0; i < sellers.size(); i++) {
            Seller seller = sellers.get(i);
            addTo(made.forecasts, seller.number, forecastNow(seller));
        }
        freezes.add(made);
        return freezes.size() - 1;
    }

    public int since(int freeze, int seller) throws IndexOutOfBoundsException {
        if (freeze < 0 || freeze >= freezes.size()) {
            throw new IndexOutOfBoundsException("there is no such freeze");
        }
        Seller grown = sellerAt(seller);
        return forecastNow(grown) - at(freezes.get(freeze).forecasts, grown.number);
    }

    // ---- what the calls ask of their arguments

    private Account accountAt(int number) {
        if (number < 0 || number >= accounts.size()) {
            throw new IndexOutOfBoundsException("there is no such account");
        }
        return accounts.get(number);
    }

    private Seller sellerAt(int number) {
        if (number < 0 || number >= sellers.size()) {
            throw new IndexOutOfBoundsException("there is no such seller");
        }
        return sellers.get(number);
    }

    private Chance chanceAt(int number) {
        if (number < 0 || number >= chances.size()) {
            throw new IndexOutOfBoundsException("there is no such chance");
        }
        return chances.get(number);
    }

    private Quote quoteAt(int number) {
        if (number < 0 || number >= quotes.size()) {
            throw new IndexOutOfBoundsException("there is no such quote");
        }
        return quotes.get(number);
    }

    private static void requireRange(int value, int least, int most) {
        if (value < least || value > most) {
            throw new IllegalArgumentException("an argument is out of range");
        }
    }

    private static void requireStage(int stage) {
        requireRange(stage, 0, STAGES - 1);
    }

    private static void requireRoom(int count, int most) {
        if (count >= most) {
            throw new IllegalStateException("there are as many as there can be");
        }
    }

    private static void requireOpen(Chance chance) {
        if (!isOpen(chance)) {
            throw new IllegalStateException("the chance is won or lost");
        }
    }

    // ---- regions

    private int regionNow(Account account) {
        for (Account asked = account; asked != null; asked = asked.above) {
            int region = asked.exception == NONE ? ruledRegion(asked) : asked.exception;
            if (region != NONE) {
                return region;
            }
        }
        return 0;
    }

    /** The region of the first rule that fits the account, NONE if none does. */
    private int ruledRegion(Account account) {
        for (int i = 0; i < rules.size(); i++) {
            Rule rule = rules.get(i);
            if (rule.first <= account.area && account.area <= rule.last
                    && rule.size <= account.size) {
                return rule.region;
            }
        }
        return NONE;
    }

    private int regionFor(Chance chance) {
        return isOpen(chance) ? regionNow(chance.account) : chance.keptRegion;
    }

    /** Whether an account is the top one or below it, at whatever distance. */
    private static boolean isInTree(Account account, Account top) {
        for (Account met = account; met != null; met = met.above) {
            if (met == top) {
                return true;
            }
        }
        return false;
    }

    // ---- stages and quotes

    private static boolean isOpen(Chance chance) {
        return chance.stage < WON;
    }

    private static boolean canCome(Chance chance, int stage) {
        if (!isOpen(chance)) {
            return false;
        }
        if (stage == LOST || stage < chance.stage) {
            return true;
        }
        if (stage != chance.stage + 1) {
            return false;
        }
        return stage != QUOTED || chance.counting != null;
    }

    private static boolean canApprove(Quote quote, Seller seller) {
        return isInTeam(quote.maker.above, seller) && quote.discount <= seller.limit;
    }

    /** Approves a quote; as it is the last one approved so far, it is the one that counts. */
    private static void letCount(Quote quote) {
        quote.approved = true;
        quote.chance.counting = quote;
    }

    private static int worthNow(Chance chance) {
        Quote quote = chance.counting;
        return quote == null ? chance.amount : hundredths(chance.amount, WHOLE - quote.discount);
    }

    // ---- forecasts

    /** Whether a seller, if there is one, is the top one or below, at whatever distance. */
    private static boolean isInTeam(Seller seller, Seller top) {
        for (Seller met = seller; met != null; met = met.above) {
            if (met == top) {
                return true;
            }
        }
        return false;
    }

    private int ownNow(Seller seller) {
        int sum = 0;
        for (int i = 0; i < chances.size(); i++) {
            Chance chance = chances.get(i);
            int part = hundredths(worthNow(chance), at(chance.shares, seller.number));
            sum += hundredths(part, at(WEIGHTS, chance.stage));
        }
        return sum;
    }

    // The layers only add up, so a sum over the whole team needs no recursion.
    private int forecastNow(Seller top) {
        int sum = 0;
        for (int i = 0; i < sellers.size(); i++) {
            Seller seller = sellers.get(i);
            if (isInTeam(seller, top)) {
                sum += ownNow(seller) + seller.adjustment;
            }
        }
        return sum;
    }

    // ---- numbers and rows

    // No value here is negative, so the division rounds down; 1000000 times 100 fits an int.
    private static int hundredths(int value, int count) {
        return value * count / WHOLE;
    }

    private static int at(int[] row, int index) {
        return index >= 0 && index < row.length ? row[index] : 0;
    }

    private static void addTo(int[] row, int index, int amount) {
        if (index >= 0 && index < row.length) {
            row[index] += amount;
        }
    }

    // ---- what the desk holds

    private static final class Account {
        final Account above;
        final int area;
        final int size;
        int exception = NONE;

        Account(Account above, int area, int size) {
            this.above = above;
            this.area = area;
            this.size = size;
        }
    }

    private static final class Rule {
        final int first;
        final int last;
        final int size;
        final int region;

        Rule(int first, int last, int size, int region) {
            this.first = first;
            this.last = last;
            this.size = size;
            this.region = region;
        }
    }

    private static final class Seller {
        final int number;
        final Seller above;
        final int limit;
        int adjustment = 0;

        Seller(int number, Seller above, int limit) {
            this.number = number;
            this.above = above;
            this.limit = limit;
        }
    }

    private static final class Chance {
        final Account account;
        final int amount;
        final int[] shares = new int[MOST_SELLERS];
        /** The days in each stage up to the last move; those since then come from cameOn. */
        final int[] daysBefore = new int[STAGES];
        int stage = 0;
        int cameOn;
        /** The region at the end of a chance; an open one is in that of its account. */
        int keptRegion = NONE;
        Quote counting = null;

        Chance(Account account, int amount, int cameOn) {
            this.account = account;
            this.amount = amount;
            this.cameOn = cameOn;
        }
    }

    private static final class Quote {
        final int number;
        final Chance chance;
        final Seller maker;
        final int discount;
        boolean approved = false;

        Quote(int number, Chance chance, Seller maker, int discount) {
            this.number = number;
            this.chance = chance;
            this.maker = maker;
            this.discount = discount;
        }
    }

    private static final class Freeze {
        /** By the seller's number; a seller added later has the 0 that stands here. */
        final int[] forecasts = new int[MOST_SELLERS];
    }
}
