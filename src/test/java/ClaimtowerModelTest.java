import java.util.ArrayList;
import java.util.List;
import java.util.Random;

/** Runs of calls, drawn with told seeds, on Claimtower and on NaiveTower: each answer is the same. */
public final class ClaimtowerModelTest {
    private static final int[] DAYS = {0, 1, 3, 4, 33, 34, 180, 363, 364, 365, 366, 368, 500, 729, 730, 1094, 1095, 1098, 1458, 1459};
    private static final int[] COINS = {0, 1, 2, 7, 50, 99, 100, 101, 300, 999, 5000, 40000, 99998, 99999};
    private static final int[] WRONG = {-1, Integer.MIN_VALUE, Integer.MAX_VALUE, 100000, 1460, 4, 14};

    private final Random random;
    private final int year;
    private final int narrow;
    private final boolean isFew;
    /** With few coins there are many PARTINGS that pay the same, and many rests that are the same. */
    private final boolean isSmall;

    private ClaimtowerModelTest(long seed) {
        random = new Random(seed);
        year = random.nextInt(4);
        narrow = random.nextInt(4);
        isFew = random.nextBoolean();
        isSmall = random.nextInt(4) == 0;
    }

    public static void main(String[] args) {
        int runs = args.length > 0 ? Integer.parseInt(args[0]) : 400;
        for (long seed = 1; seed <= runs; seed++) {
            if (!new ClaimtowerModelTest(seed).isRunAlike(seed)) {
                break;
            }
        }
        Calls.end("runs against the naive tower");
    }

    private boolean isRunAlike(long seed) {
        Claimtower tower = new Claimtower();
        NaiveTower naive = new NaiveTower();
        List<String> run = new ArrayList<>();
        for (int i = 0; i < 160; i++) {
            Object[] call = i % 40 == 39 ? call("digest") : random.nextInt(100) < (i < 40 ? 80 : 45) ? change() : question();
            String name = (String) call[0];
            Object[] arguments = java.util.Arrays.copyOfRange(call, 1, call.length);
            run.add(Calls.told(name, arguments));
            Object due = Calls.answer(naive, name, arguments);
            Object got = Calls.answer(tower, name, arguments);
            if (!Calls.check("seed " + seed + ", call " + i + " " + Calls.told(name, arguments), got, due)) {
                System.out.println(String.join(" ", run));
                return false;
            }
        }
        return true;
    }

    private static Object[] call(Object... parts) {
        return parts;
    }

    private int wrongOr(int right) {
        return random.nextInt(60) == 0 ? WRONG[random.nextInt(WRONG.length)] : right;
    }

    private int below(int bound) {
        return wrongOr(random.nextInt(bound));
    }

    /** In three runs of four the losses stand close together, so that there is something to part. */
    private int day() {
        int right = random.nextInt(narrow == 3 ? 1460 : 12 + 20 * narrow) + (narrow == 3 ? 0 : 365 * year);
        return wrongOr(random.nextInt(5) == 0 ? DAYS[random.nextInt(DAYS.length)] : right);
    }

    private int place() {
        return isFew ? wrongOr(random.nextInt(8) == 0 ? 1 : 0) : below(3);
    }

    private int coins() {
        if (isSmall) {
            return wrongOr(random.nextInt(15));
        }
        int kind = random.nextInt(4);
        return wrongOr(kind == 0 ? COINS[random.nextInt(COINS.length)] : kind == 1 ? random.nextInt(100000) : random.nextInt(600));
    }

    private int known(int day) {
        return random.nextInt(8) == 0 ? below(1460) : wrongOr(Math.min(1459, day + random.nextInt(random.nextBoolean() ? 5 : 700)));
    }

    private Object[] change() {
        switch (random.nextInt(22)) {
            case 0: case 1: case 2: case 3: case 4:
                int day = day();
                return call("loss", day, place(), below(3), coins(), known(day));
            case 5: case 6: return call("report", below(12), below(1460), coins());
            case 7: return call("unreport", below(12));
            case 8: case 9: return call("recover", below(12), coins());
            case 10: return call("today", random.nextInt(3) == 0 ? 1459 : below(1460));
            case 11: case 12: case 13: return policyCall();
            case 14: return call("rule", below(3));
            case 15: return call("insurer", coins());
            case 16: return call("sum", below(4), coins());
            case 17: return random.nextBoolean() ? call("way", below(4)) : call("fail", below(4), random.nextBoolean());
            case 18: return call("share", wrongOr(1 + random.nextInt(99)));
            case 19: return call("layer", random.nextInt(2) == 0 ? coins() : below(300), coins(), below(10), below(1000));
            case 20: return random.nextBoolean() ? call("stop", coins(), coins()) : call("unsign");
            default: return call("undo");
        }
    }

    private Object[] policyCall() {
        int what = below(14);
        switch (what) {
            case 0: return call("policy", what, below(3));
            case 9: return call("policy", what, random.nextInt(3) == 0 ? below(1460) : below(60));
            case 10: case 11: return call("policy", what, below(9));
            case 12: return call("policy", what, below(31));
            case 1: return call("policy", what, random.nextBoolean() && !isSmall ? below(101) : coins());
            default: return call("policy", what, isSmall && random.nextBoolean() ? 10 + random.nextInt(30) : coins());
        }
    }

    private Object[] question() {
        switch (random.nextInt(26)) {
            case 0: case 1: return call("ofLoss", below(12), below(9));
            case 2: return call("sumAt", below(12), day());
            case 3: return call("parting", below(4), place());
            case 4: return call("partings", year, place());
            case 5: return call("best", year, place(), random.nextBoolean());
            case 6: return call("events", below(4));
            case 7: case 8: return call("event", year, below(6), below(12));
            case 9: return call("part", year, below(5), below(4));
            case 10: return call("taken", year, below(5), below(6));
            case 11: case 12: return call("why", random.nextInt(3) == 0 ? below(4) : year, below(5));
            case 13: return call("worst");
            case 14: case 15: return call("ofYear", below(4), below(11));
            case 16: return call("paidBy", below(4), below(4));
            case 17: return call("ofContract", below(6), year, below(3));
            case 18: return call("contract", below(6));
            case 19: return call("would", year, wrongOr(1 + random.nextInt(99)));
            case 20: return call("late", day(), place(), below(3), coins());
            case 21: return call("cum", below(4), below(4));
            case 22: return call("growth", below(3));
            case 23: return call("ultimate", below(4));
            case 24: return random.nextBoolean() ? call("money", random.nextInt()) : call("house", below(11));
            default: return random.nextBoolean() ? call("number", below(14)) : call(random.nextBoolean() ? "knock" : "isSound");
        }
    }
}
