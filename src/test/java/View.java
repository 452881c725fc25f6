import java.util.ArrayList;
import java.util.List;

/**
 * What a desk answers to all that can be asked of it. Some of it can be seen only by calls that
 * change the desk, and a desk has but 512 calls, so it comes in parts, each for a desk of its own.
 */
final class View {
    static final int PARTS = 11;
    /** What is left of the 512 calls behind the longest way to make a desk. */
    private static final int MOST_CALLS = 280;

    private final SalesDesk x;
    private final List<String> rows = new ArrayList<>();

    private View(SalesDesk x) {
        this.x = x;
    }

    static List<String> of(SalesDesk x, int part) {
        View view = new View(x);
        view.look(part);
        Check.holds("a view keeps within the 512 calls", view.rows.size() <= MOST_CALLS);
        return view.rows;
    }

    private void look(int part) {
        switch (part) {
            case 0: answers(); break;
            case 1: days(); break;
            case 2: growth(); break;
            case 3: regions(); break;
            case 4: shares(0, 10); break;
            case 5: shares(10, 20); break;
            case 6: shares(20, 31); break;
            case 7: approvals(0, 20); break;
            case 8: approvals(20, 41); break;
            case 9: rooms(); break;
            default: stalls(); break;
        }
    }

    /** Asks, and tells whether there was an answer. */
    private boolean asked(String call, Check.Call asked) {
        try {
            rows.add(call + " answers " + asked.answer());
            return true;
        } catch (RuntimeException e) {
            rows.add(call + " throws " + e.getClass().getName());
            return false;
        }
    }

    private void answers() {
        for (int i = 0; i <= 16; i++) {
            int account = i;
            asked("regionOf " + i, () -> x.regionOf(account));
            asked("won " + i, () -> x.won(account));
        }
        for (int i = 0; i <= 8; i++) {
            int seller = i;
            asked("forecast " + i, () -> x.forecast(seller));
            asked("own " + i, () -> x.own(seller));
        }
        for (int i = 0; i <= 30; i++) {
            int chance = i;
            asked("stage " + i, () -> x.stage(chance));
            asked("worth " + i, () -> x.worth(chance));
            asked("counting " + i, () -> x.counting(chance));
        }
        asked("waiting", () -> x.waiting());
        asked("pass 1", () -> x.pass(1));
    }

    private void days() {
        for (int i = 0; i <= 30; i++) {
            int chance = i;
            for (int j = 0; j <= 5; j++) {
                int stage = j;
                asked("daysIn " + i + " " + j, () -> x.daysIn(chance, stage));
            }
            asked("days of the last stay of " + i, () -> x.move(chance, 5));
        }
    }

    private void stalls() {
        for (int i = 0; i <= 20; i++) {
            int days = i;
            asked("stalled " + i, () -> x.stalled(days));
            asked("stalled since " + i, () -> x.stalled(99999 - days));
        }
    }

    private void growth() {
        for (int i = 0; i <= 8; i++) {
            int seller = i;
            for (int j = 0; j <= 20; j++) {
                int freeze = j;
                asked("since " + j + " of " + i, () -> x.since(freeze, seller));
            }
            asked("adjustment of " + i, () -> x.adjust(seller, 0));
        }
    }

    private void regions() {
        inRegions(0);
        for (int i = 0; i <= 16; i++) {
            int account = i;
            asked("exception of " + i, () -> x.except(account, -1));
        }
        for (int i = 0; i <= 16; i++) {
            int number = i;
            asked("another account", () -> x.addAccount(-1, number * 3 % 10, 9 - number % 10));
        }
        for (int rules = 8; rules >= 0; rules--) {
            for (int i = 0; i < 16; i++) {
                int account = i;
                asked("region of " + i, () -> x.regionOf(account));
            }
            asked("without the first rule", () -> x.removeRule(0));
        }
        inRegions(4);
    }

    private void inRegions(int firstStage) {
        for (int i = firstStage; i <= 5; i++) {
            int stage = i;
            for (int j = 0; j <= 3; j++) {
                int region = j;
                asked("inRegion " + j + " " + i, () -> x.inRegion(region, stage));
            }
        }
    }

    /** Shares are seen where one hundredth goes round, from each seller to the next and back. */
    private void shares(int first, int end) {
        for (int i = first; i < end; i++) {
            int chance = i;
            for (int j = 0; j < 8; j++) {
                int from = j;
                int to = (j + 1) % 8;
                asked("give " + i + " from " + j, () -> x.giveShare(chance, from, to, 1));
            }
            for (int j = 0; j < 8; j++) {
                int from = (j + 1) % 8;
                int to = j;
                asked("give " + i + " back to " + j, () -> x.giveShare(chance, from, to, 1));
            }
        }
    }

    private void approvals(int first, int end) {
        for (int i = first; i < end; i++) {
            int quote = i;
            boolean done = false;
            for (int j = 7; j >= 0 && !done; j--) {
                int seller = j;
                done = asked("approve " + i + " by " + j, () -> {
                    x.approve(quote, seller);
                    return 0;
                });
            }
        }
        for (int i = 0; i <= 30; i++) {
            int chance = i;
            asked("counting " + i, () -> x.counting(chance));
        }
    }

    /** How many more of each there is room for. */
    private void rooms() {
        fill("account", 17, () -> x.addAccount(-1, 0, 0));
        fill("rule", 9, () -> x.putRule(0, 0, 9, 0, 0));
        fill("seller", 9, () -> x.addSeller(-1, 0));
        fill("chance", 31, () -> x.addChance(0, 0, 1));
        fill("quote", 41, () -> x.quote(3, 0, 0));
        fill("freeze", 21, () -> x.freeze());
        fill("pass 1000", 101, () -> x.pass(1000));
    }

    private void fill(String kind, int most, Check.Call add) {
        boolean room = true;
        for (int i = 0; i < most && room; i++) {
            room = asked("one more " + kind, add);
        }
    }
}
