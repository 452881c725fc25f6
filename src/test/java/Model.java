import java.util.ArrayList;
import java.util.List;
import java.util.NoSuchElementException;

/**
 * The document once more, written otherwise than the class: it keeps the traces themselves (every
 * move, every approval) and follows the words of the document down the trees.
 */
final class Model {
    private int day = 0;
    /** Each {above, area, size, exception}. */
    private final List<int[]> accounts = new ArrayList<>();
    /** Each {first, last, size, region}. */
    private final List<int[]> rules = new ArrayList<>();
    /** Each {above, limit, adjustment}. */
    private final List<int[]> sellers = new ArrayList<>();
    /** Each {account, amount, region kept}. */
    private final List<int[]> chances = new ArrayList<>();
    private final List<int[]> shares = new ArrayList<>();
    /** For each chance its stays: each {stage, first day}. */
    private final List<List<int[]>> stays = new ArrayList<>();
    /** Each {chance, seller, discount}. */
    private final List<int[]> quotes = new ArrayList<>();
    /** The numbers of the quotes in the order of their approval. */
    private final List<Integer> approvals = new ArrayList<>();
    private final List<List<Integer>> freezes = new ArrayList<>();

    private static void there(boolean is) {
        if (!is) {
            throw new IndexOutOfBoundsException();
        }
    }

    private static void inRange(int value, int least, int most) {
        if (value < least || value > most) {
            throw new IllegalArgumentException();
        }
    }

    private static void allowed(boolean is) {
        if (!is) {
            throw new IllegalStateException();
        }
    }

    private static boolean has(List<?> list, int number) {
        return number >= 0 && number < list.size();
    }

    /** Answers a call of the face, told by its name. */
    int call(String name, int[] a) {
        switch (name) {
            case "pass": return pass(a[0]);
            case "addAccount": return addAccount(a[0], a[1], a[2]);
            case "putRule": return putRule(a[0], a[1], a[2], a[3], a[4]);
            case "removeRule": return removeRule(a[0]);
            case "except": return except(a[0], a[1]);
            case "regionOf": return regionOf(a[0]);
            case "addSeller": return addSeller(a[0], a[1]);
            case "adjust": return adjust(a[0], a[1]);
            case "addChance": return addChance(a[0], a[1], a[2]);
            case "giveShare": return giveShare(a[0], a[1], a[2], a[3]);
            case "move": return move(a[0], a[1]);
            case "stage": return stage(a[0]);
            case "daysIn": return daysIn(a[0], a[1]);
            case "stalled": return stalled(a[0]);
            case "worth": return worth(a[0]);
            case "inRegion": return inRegion(a[0], a[1]);
            case "won": return won(a[0]);
            case "quote": return quote(a[0], a[1], a[2]);
            case "approve": return approve(a[0], a[1]);
            case "counting": return counting(a[0]);
            case "waiting": return waiting();
            case "forecast": return forecast(a[0]);
            case "own": return own(a[0]);
            case "freeze": return freeze();
            default: return since(a[0], a[1]);
        }
    }

    int pass(int days) {
        inRange(days, 1, 1000);
        allowed(day + days <= 100000);
        day += days;
        return day;
    }

    int addAccount(int above, int area, int size) {
        there(above == -1 || has(accounts, above));
        inRange(area, 0, 9);
        inRange(size, 0, 9);
        allowed(accounts.size() < 16);
        accounts.add(new int[] {above, area, size, -1});
        return accounts.size() - 1;
    }

    int putRule(int place, int first, int last, int size, int region) {
        there(place == rules.size() || has(rules, place));
        inRange(first, 0, 9);
        inRange(last, first, 9);
        inRange(size, 0, 9);
        inRange(region, 0, 3);
        allowed(rules.size() < 8);
        rules.add(place, new int[] {first, last, size, region});
        return rules.size();
    }

    int removeRule(int place) {
        there(has(rules, place));
        rules.remove(place);
        return rules.size();
    }

    int except(int account, int region) {
        there(has(accounts, account));
        inRange(region, -1, 3);
        int before = accounts.get(account)[3];
        accounts.get(account)[3] = region;
        return before;
    }

    int regionOf(int account) {
        there(has(accounts, account));
        int[] told = accounts.get(account);
        if (told[3] != -1) {
            return told[3];
        }
        for (int[] rule : rules) {
            if (told[1] >= rule[0] && told[1] <= rule[1] && told[2] >= rule[2]) {
                return rule[3];
            }
        }
        return told[0] == -1 ? 0 : regionOf(told[0]);
    }

    int addSeller(int above, int limit) {
        there(above == -1 || has(sellers, above));
        inRange(limit, 0, 99);
        allowed(sellers.size() < 8);
        sellers.add(new int[] {above, limit, 0});
        return sellers.size() - 1;
    }

    int adjust(int seller, int amount) {
        there(has(sellers, seller));
        inRange(amount, -1000000, 1000000);
        int before = sellers.get(seller)[2];
        sellers.get(seller)[2] = amount;
        return before;
    }

    int addChance(int account, int seller, int amount) {
        there(has(accounts, account) && has(sellers, seller));
        inRange(amount, 1, 1000000);
        allowed(chances.size() < 30);
        chances.add(new int[] {account, amount, -1});
        int[] share = new int[8];
        share[seller] = 100;
        shares.add(share);
        List<int[]> trace = new ArrayList<>();
        trace.add(new int[] {0, day});
        stays.add(trace);
        return chances.size() - 1;
    }

    int giveShare(int chance, int from, int to, int part) {
        there(has(chances, chance) && has(sellers, from) && has(sellers, to));
        inRange(part, 1, 100);
        inRange(from == to ? 1 : 0, 0, 0);
        int[] share = shares.get(chance);
        allowed(share[from] >= part && open(chance));
        share[from] -= part;
        share[to] += part;
        return share[to];
    }

    int move(int chance, int stage) {
        there(has(chances, chance));
        inRange(stage, 0, 5);
        int before = stage(chance);
        boolean quoted = counts(chance) != -1;
        boolean up = stage == before + 1 && stage <= 4 && (stage != 3 || quoted);
        allowed(open(chance) && (up || stage < before || stage == 5));
        List<int[]> trace = stays.get(chance);
        int days = day - trace.get(trace.size() - 1)[1];
        trace.add(new int[] {stage, day});
        if (stage >= 4) {
            chances.get(chance)[2] = regionOf(chances.get(chance)[0]);
        }
        return days;
    }

    int stage(int chance) {
        there(has(chances, chance));
        List<int[]> trace = stays.get(chance);
        return trace.get(trace.size() - 1)[0];
    }

    private boolean open(int chance) {
        return stage(chance) <= 3;
    }

    int daysIn(int chance, int stage) {
        there(has(chances, chance));
        inRange(stage, 0, 5);
        List<int[]> trace = stays.get(chance);
        int days = 0;
        for (int i = 0; i < trace.size(); i++) {
            int end = i + 1 < trace.size() ? trace.get(i + 1)[1] : day;
            if (trace.get(i)[0] == stage) {
                days += end - trace.get(i)[1];
            }
        }
        return days;
    }

    int stalled(int days) {
        inRange(days, 0, 100000);
        int count = 0;
        for (int i = 0; i < chances.size(); i++) {
            List<int[]> trace = stays.get(i);
            if (open(i) && day > trace.get(trace.size() - 1)[1] + days) {
                count++;
            }
        }
        return count;
    }

    int worth(int chance) {
        there(has(chances, chance));
        long amount = chances.get(chance)[1];
        int counting = counts(chance);
        int discount = counting == -1 ? 0 : quotes.get(counting)[2];
        return (int) Math.floorDiv(amount * (100 - discount), 100L);
    }

    int inRegion(int region, int stage) {
        inRange(region, 0, 3);
        inRange(stage, 0, 5);
        int sum = 0;
        for (int i = 0; i < chances.size(); i++) {
            int its = stage(i) <= 3 ? regionOf(chances.get(i)[0]) : chances.get(i)[2];
            sum += its == region && stage(i) == stage ? worth(i) : 0;
        }
        return sum;
    }

    int won(int account) {
        there(has(accounts, account));
        int sum = 0;
        for (int i = 0; i < chances.size(); i++) {
            sum += stage(i) == 4 && chances.get(i)[0] == account ? worth(i) : 0;
        }
        for (int below = 0; below < accounts.size(); below++) {
            sum += accounts.get(below)[0] == account ? won(below) : 0;
        }
        return sum;
    }

    int quote(int chance, int seller, int discount) {
        there(has(chances, chance) && has(sellers, seller));
        inRange(discount, 0, 99);
        allowed(open(chance) && quotes.size() < 40);
        quotes.add(new int[] {chance, seller, discount});
        if (sellers.get(seller)[1] >= discount) {
            approvals.add(quotes.size() - 1);
        }
        return quotes.size() - 1;
    }

    int approve(int quote, int seller) {
        there(has(quotes, quote) && has(sellers, seller));
        int[] asked = quotes.get(quote);
        allowed(!approvals.contains(quote));
        allowed(open(asked[0]));
        allowed(isAbove(seller, asked[1]) && sellers.get(seller)[1] >= asked[2]);
        approvals.add(quote);
        return 0;
    }

    private boolean isAbove(int seller, int other) {
        int above = sellers.get(other)[0];
        return above != -1 && (above == seller || isAbove(seller, above));
    }

    private int counts(int chance) {
        int last = -1;
        for (int quote : approvals) {
            last = quotes.get(quote)[0] == chance ? quote : last;
        }
        return last;
    }

    int counting(int chance) {
        there(has(chances, chance));
        if (counts(chance) == -1) {
            throw new NoSuchElementException();
        }
        return counts(chance);
    }

    int waiting() {
        int count = 0;
        for (int i = 0; i < quotes.size(); i++) {
            count += !approvals.contains(i) && open(quotes.get(i)[0]) ? 1 : 0;
        }
        return count;
    }

    int forecast(int seller) {
        there(has(sellers, seller));
        int sum = own(seller) + sellers.get(seller)[2];
        for (int below = 0; below < sellers.size(); below++) {
            sum += sellers.get(below)[0] == seller ? forecast(below) : 0;
        }
        return sum;
    }

    int own(int seller) {
        there(has(sellers, seller));
        int[] weights = {10, 30, 60, 90, 100, 0};
        long sum = 0;
        for (int i = 0; i < chances.size(); i++) {
            long part = Math.floorDiv((long) worth(i) * shares.get(i)[seller], 100L);
            sum += Math.floorDiv(part * weights[stage(i)], 100L);
        }
        return (int) sum;
    }

    int freeze() {
        allowed(freezes.size() < 20);
        List<Integer> row = new ArrayList<>();
        for (int seller = 0; seller < sellers.size(); seller++) {
            row.add(forecast(seller));
        }
        freezes.add(row);
        return freezes.size() - 1;
    }

    int since(int freeze, int seller) {
        there(has(freezes, freeze) && has(sellers, seller));
        List<Integer> row = freezes.get(freeze);
        return forecast(seller) - (seller < row.size() ? row.get(seller) : 0);
    }
}
