/** A tower of insurance over losses. The names follow the words in capitals of the document. */
public final class Claimtower {
    private static final int NONE = -1;
    private static final int CLASHES = -8;
    private static final int NOTHING_TO_TAKE = -9;

    private static final int YEARS = 4;
    private static final int YEAR_DAYS = 365;
    private static final int LAST_DAY = 1459;
    private static final int PLACES = 3;
    private static final int KINDS = 3;
    private static final int AGES = 4;
    private static final int MOST_COINS = 99999;
    private static final int MOST_LOSSES = 12;
    /** late() asks with one LOSS more than there may be. */
    private static final int LOSS_ROOM = MOST_LOSSES + 1;
    private static final int MOST_INSURERS = 4;
    private static final int MOST_CONTRACTS = 6;
    private static final int MOST_UNDOS = 12;
    private static final int FIRST_STEP = 4;
    private static final int LAST_STEP = 9;

    private static final int OWN_MODE = 0;
    private static final int OWN = 1;
    private static final int LINE = 2;
    private static final int YEAR_OWN = 3;
    private static final int EVENT_BOUND = 4;
    private static final int KIND_BOUND = 5;
    private static final int YEAR_BOUND = 8;
    private static final int WAIT = 9;
    private static final int INSURED = 10;
    private static final int VALUE = 11;
    private static final int SPAN = 12;
    private static final int BASE = 13;
    private static final int POLICY_NUMBERS = 14;
    private static final int[] POLICY_AT_FIRST = {
        0, 0, 0, 0, 99999, 99999, 99999, 99999, 99999, 0, 1, 1, 3, 0};
    private static final int[] POLICY_LEAST = {
        0, 0, 0, 0, 0, 0, 0, 0, 0, 0, 1, 1, 0, 0};
    private static final int[] POLICY_GREATEST = {
        2, 99999, 99999, 99999, 99999, 99999, 99999, 99999, 99999, 1459, 99999, 99999, 30, 99999};

    private static final int WAY_ALIKE = 0;
    private static final int WAY_SUMS = 1;
    private static final int WAY_ALONE = 2;

    private static final int SHARE = 0;
    private static final int LAYER = 1;
    private static final int STOP = 2;
    private static final int AGAIN_WITHOUT_END = 9;
    private static final int MOST_PRICE = 999;

    private static final int LOSS_FACTS = 9;

    private static final int EVENT_FIRST = 0;
    private static final int EVENT_SIZE = 1;
    private static final int EVENT_GROSS = 2;
    private static final int EVENT_PAID = 3;
    private static final int EVENT_KEPT = 4;
    private static final int EVENT_OWN_OFF = 5;
    private static final int EVENT_OWED = 6;
    private static final int EVENT_WHOLE = 7;
    private static final int EVENT_RECOVERED = 8;
    private static final int EVENT_DUE = 9;
    private static final int EVENT_NET = 10;
    private static final int EVENT_PLACE = 11;
    private static final int EVENT_FACTS = 12;

    private static final int YEAR_SUMS = 0;
    private static final int YEAR_BORNE = 1;
    private static final int YEAR_PARTS = 2;
    private static final int YEAR_NETS = 3;
    private static final int YEAR_TAKEN = 4;
    private static final int YEAR_BACK = 5;
    private static final int YEAR_STEP = 6;
    private static final int YEAR_PREMIUM = 7;
    private static final int YEAR_PRICES = 8;
    private static final int YEAR_OWN_LEFT = 9;
    private static final int YEAR_BOUND_LEFT = 10;
    private static final int YEAR_FACTS = 11;

    private static final int CONTRACT_FACTS = 3;
    private static final int HOUSE_FACTS = 11;
    private static final int SOUND_PERCENT = 10;
    private static final long DIGEST_START = 6506L;

    private final State now = new State();
    private final State trial = new State();
    private final State[] past = new State[MOST_UNDOS];
    private int newest = 0;
    private int undoable = 0;
    private int knocks = 0;
    private boolean isSettled = false;
    private final YearBook[] books = new YearBook[YEARS];
    private final YearBook trialBook = new YearBook();
    private final Parting desk = new Parting();
    private final Sharing sharing = new Sharing();
    private final Fraction fraction = new Fraction();
    private final StringBuilder text = new StringBuilder();

    public Claimtower() {
        for (int i = 0; i < past.length; i++) {
            past[i] = new State();
        }
        for (int i = 0; i < books.length; i++) {
            books[i] = new YearBook();
        }
    }

    // ---- losses

    public int loss(int day, int place, int kind, int sum, int known)
            throws IllegalArgumentException, IllegalStateException {
        needArgument(isLossLike(day, place, kind, sum) && isDay(known));
        needState(now.losses < MOST_LOSSES);
        if (known < day) {
            return CLASHES;
        }
        keepForUndo();
        now.addLoss(new Loss(day, place, kind, 0, new Report(known, sum, null)));
        return now.losses - 1;
    }

    public int report(int loss, int known, int sum)
            throws IndexOutOfBoundsException, IllegalArgumentException {
        Loss it = neededLoss(loss);
        needArgument(isDay(known) && isBetween(sum, 0, MOST_COINS));
        if (known <= it.lastKnown()) {
            return CLASHES;
        }
        keepForUndo();
        Report last = new Report(known, sum, it.last);
        now.putLoss(loss, it.withLast(last));
        return last.count;
    }

    public int unreport(int loss) throws IndexOutOfBoundsException {
        Loss it = neededLoss(loss);
        Report before = it.last == null ? null : it.last.before;
        if (before == null) {
            return NOTHING_TO_TAKE;
        }
        keepForUndo();
        now.putLoss(loss, it.withLast(before));
        return before.count;
    }

    public int recover(int loss, int sum)
            throws IndexOutOfBoundsException, IllegalArgumentException {
        Loss it = neededLoss(loss);
        needArgument(isBetween(sum, 0, MOST_COINS));
        keepForUndo();
        now.putLoss(loss, it.withBack(sum));
        return it.back;
    }

    public int today(int day) throws IllegalArgumentException {
        needArgument(isDay(day));
        keepForUndo();
        int before = now.today;
        now.today = day;
        return before;
    }

    // ---- policy, insurers, contracts

    public int policy(int what, int number)
            throws IndexOutOfBoundsException, IllegalArgumentException {
        needIndex(isBetween(what, 0, POLICY_NUMBERS - 1));
        needArgument(isPolicyNumber(what, number));
        keepForUndo();
        int before = now.policy.get(what);
        now.policy.put(what, number);
        return before;
    }

    public int rule(int rule) throws IllegalArgumentException {
        needArgument(isBetween(rule, 0, 2));
        keepForUndo();
        int before = now.rule;
        now.rule = rule;
        return before;
    }

    public int insurer(int sum) throws IllegalArgumentException, IllegalStateException {
        needArgument(isBetween(sum, 1, MOST_COINS));
        needState(now.insurers < MOST_INSURERS);
        keepForUndo();
        now.sums.put(now.insurers, sum);
        now.insurers++;
        return now.insurers;
    }

    public int sum(int insurer, int sum)
            throws IndexOutOfBoundsException, IllegalArgumentException {
        needIndex(isBetween(insurer, 0, now.insurers - 1));
        needArgument(isBetween(sum, 1, MOST_COINS));
        keepForUndo();
        int before = now.sums.get(insurer);
        now.sums.put(insurer, sum);
        return before;
    }

    public int way(int way) throws IllegalArgumentException {
        needArgument(isBetween(way, 0, 3));
        keepForUndo();
        int before = now.way;
        now.way = way;
        return before;
    }

    public int fail(int insurer, boolean is) throws IndexOutOfBoundsException {
        needIndex(isBetween(insurer, 0, now.insurers - 1));
        keepForUndo();
        int before = now.hasFailed(insurer) ? 1 : 0;
        int bit = 1 << insurer;
        now.failed = is ? now.failed | bit : now.failed & ~bit;
        return before;
    }

    public int share(int percent) throws IllegalArgumentException, IllegalStateException {
        needArgument(isPercent(percent));
        needState(now.contracts < MOST_CONTRACTS);
        return sign(new Contract(SHARE, percent, 0, 0, 0, 0));
    }

    public int layer(int from, int wide, int again, int price)
            throws IllegalArgumentException, IllegalStateException {
        needArgument(isStretch(from, wide) && isBetween(again, 0, AGAIN_WITHOUT_END)
            && isBetween(price, 0, MOST_PRICE));
        needState(now.contracts < MOST_CONTRACTS);
        Contract layer = new Contract(LAYER, 0, from, wide, again, price);
        return now.meetsLastBlock(layer) ? CLASHES : sign(layer);
    }

    public int stop(int from, int wide) throws IllegalArgumentException, IllegalStateException {
        needArgument(isStretch(from, wide));
        needState(now.contracts < MOST_CONTRACTS);
        return sign(new Contract(STOP, 0, from, wide, 0, 0));
    }

    public int unsign() {
        if (now.contracts <= 0) {
            return NOTHING_TO_TAKE;
        }
        keepForUndo();
        now.contracts--;
        return now.contracts;
    }

    public int undo() throws IllegalStateException {
        needState(undoable > 0);
        State before = newest >= 0 && newest < past.length ? past[newest] : null;
        if (before != null) {
            now.become(before);
        }
        newest = (newest + MOST_UNDOS - 1) % MOST_UNDOS;
        undoable--;
        isSettled = false;
        return undoable;
    }

    // ---- what is asked of losses and events

    public int ofLoss(int loss, int what)
            throws IndexOutOfBoundsException, IllegalArgumentException {
        Loss it = neededLoss(loss);
        needArgument(isBetween(what, 0, LOSS_FACTS - 1));
        settle();
        return lossFact(it, loss, what);
    }

    public int sumAt(int loss, int day)
            throws IndexOutOfBoundsException, IllegalArgumentException {
        Loss it = neededLoss(loss);
        needArgument(isDay(day));
        return it.coinsAt(day);
    }

    public String parting(int year, int place) throws IndexOutOfBoundsException {
        needIndex(isYear(year) && isPlace(place));
        settle();
        partAnew(year, place);
        text.setLength(0);
        desk.write(text);
        return text.toString();
    }

    public int partings(int year, int place) throws IndexOutOfBoundsException {
        needIndex(isYear(year) && isPlace(place));
        settle();
        partAnew(year, place);
        return desk.ways.get(0);
    }

    public int best(int year, int place, boolean isWorst) throws IndexOutOfBoundsException {
        needIndex(isYear(year) && isPlace(place));
        settle();
        partAnew(year, place);
        return isWorst ? desk.least.get(0) : desk.greatest.get(0);
    }

    public int events(int year) throws IndexOutOfBoundsException {
        needIndex(isYear(year));
        settle();
        return bookOf(year).events;
    }

    public int event(int year, int nth, int what)
            throws IndexOutOfBoundsException, IllegalArgumentException {
        settle();
        needIndex(isEvent(year, nth));
        needArgument(isBetween(what, 0, EVENT_FACTS - 1));
        return bookOf(year).fact(nth, what);
    }

    public int part(int year, int nth, int insurer) throws IndexOutOfBoundsException {
        settle();
        needIndex(isEvent(year, nth));
        needIndex(isBetween(insurer, 0, now.insurers - 1));
        return bookOf(year).partOf(nth, insurer);
    }

    public int taken(int year, int nth, int contract) throws IndexOutOfBoundsException {
        settle();
        needIndex(isEvent(year, nth));
        needIndex(isBetween(contract, 0, now.contracts - 1));
        return bookOf(year).takenBy(nth, contract);
    }

    public String why(int year, int nth) throws IndexOutOfBoundsException {
        settle();
        needIndex(isEvent(year, nth));
        text.setLength(0);
        bookOf(year).writeReasons(text, now, nth);
        return text.toString();
    }

    public String worst() {
        settle();
        text.setLength(0);
        writeWorst();
        return text.toString();
    }

    // ---- what is asked of years, insurers, contracts

    public int ofYear(int year, int what)
            throws IndexOutOfBoundsException, IllegalArgumentException {
        needIndex(isYear(year));
        needArgument(isBetween(what, 0, YEAR_FACTS - 1));
        settle();
        return bookOf(year).totals.get(what);
    }

    public int paidBy(int insurer, int year) throws IndexOutOfBoundsException {
        needIndex(isBetween(insurer, 0, now.insurers - 1) && isYear(year));
        settle();
        return bookOf(year).partsOf(insurer);
    }

    public int ofContract(int contract, int year, int what)
            throws IndexOutOfBoundsException, IllegalArgumentException {
        Contract it = neededContract(contract);
        needIndex(isYear(year));
        needArgument(isBetween(what, 0, CONTRACT_FACTS - 1));
        settle();
        return it.factFor(bookOf(year).took.get(contract), what);
    }

    public String contract(int contract) throws IndexOutOfBoundsException {
        Contract it = neededContract(contract);
        text.setLength(0);
        it.write(text);
        return text.toString();
    }

    public int would(int year, int percent)
            throws IndexOutOfBoundsException, IllegalArgumentException {
        needIndex(isYear(year));
        needArgument(isPercent(percent));
        settle();
        return bookOf(year).netsBehindShare(percent);
    }

    public int late(int day, int place, int kind, int sum) throws IllegalArgumentException {
        needArgument(isLossLike(day, place, kind, sum));
        settle();
        int year = day / YEAR_DAYS;
        trial.become(now);
        trial.addLoss(new Loss(day, place, kind, 0, new Report(now.today, sum, null)));
        workOut(trialBook, trial, year);
        return trialBook.totals.get(YEAR_NETS) - bookOf(year).totals.get(YEAR_NETS);
    }

    public int cum(int year, int age) throws IndexOutOfBoundsException {
        needIndex(isYear(year) && isBetween(age, 0, AGES - 1));
        settle();
        return bookOf(year).cums.get(age);
    }

    public String growth(int age) throws IndexOutOfBoundsException {
        needIndex(isBetween(age, 0, AGES - 2));
        settle();
        text.setLength(0);
        writeGrowth(age);
        return text.toString();
    }

    public String ultimate(int year) throws IndexOutOfBoundsException {
        needIndex(isYear(year));
        settle();
        text.setLength(0);
        writeUltimate(year);
        return text.toString();
    }

    public String money(int coins) {
        text.setLength(0);
        writeMoney(text, coins);
        return text.toString();
    }

    public int house(int what) throws IllegalArgumentException {
        needArgument(isBetween(what, 0, HOUSE_FACTS - 1));
        settle();
        return houseFact(what);
    }

    public int number(int what) throws IndexOutOfBoundsException {
        needIndex(isBetween(what, 0, POLICY_NUMBERS - 1));
        return now.policy.get(what);
    }

    public int knock() {
        knocks++;
        return knocks;
    }

    public boolean isSound() {
        settle();
        return areAllYearsSound();
    }

    public long digest() {
        settle();
        long d = DIGEST_START;
        for (int what = 0; what < HOUSE_FACTS; what++) {
            d = mixed(d, houseFact(what));
        }
        for (int what = 0; what < POLICY_NUMBERS; what++) {
            d = mixed(d, now.policy.get(what));
        }
        d = withLosses(d);
        for (int year = 0; year < YEARS; year++) {
            d = withYear(d, year);
        }
        for (int age = 0; age < AGES - 1; age++) {
            text.setLength(0);
            writeGrowth(age);
            d = mixed(d, text.length());
        }
        text.setLength(0);
        writeWorst();
        d = mixed(d, text.length());
        d = withContracts(d);
        return mixed(d, areAllYearsSound() ? 1 : 0);
    }

    // ---- what calls may say

    private static void needIndex(boolean is) {
        if (!is) {
            throw new IndexOutOfBoundsException();
        }
    }

    private static void needArgument(boolean is) {
        if (!is) {
            throw new IllegalArgumentException();
        }
    }

    private static void needState(boolean is) {
        if (!is) {
            throw new IllegalStateException();
        }
    }

    private Loss neededLoss(int loss) {
        Loss it = now.lossAt(loss);
        if (it == null) {
            throw new IndexOutOfBoundsException();
        }
        return it;
    }

    private Contract neededContract(int contract) {
        Contract it = now.contractAt(contract);
        if (it == null) {
            throw new IndexOutOfBoundsException();
        }
        return it;
    }

    private static boolean isBetween(int number, int least, int greatest) {
        return number >= least && number <= greatest;
    }

    private static boolean isDay(int day) {
        return isBetween(day, 0, LAST_DAY);
    }

    private static boolean isYear(int year) {
        return isBetween(year, 0, YEARS - 1);
    }

    /** The YEAR has to be settled. */
    private boolean isEvent(int year, int nth) {
        return isYear(year) && isBetween(nth, 0, bookOf(year).events - 1);
    }

    private static boolean isPlace(int place) {
        return isBetween(place, 0, PLACES - 1);
    }

    private static boolean isPercent(int percent) {
        return isBetween(percent, 1, 99);
    }

    private static boolean isStretch(int from, int wide) {
        return isBetween(from, 0, MOST_COINS) && isBetween(wide, 1, MOST_COINS);
    }

    private static boolean isLossLike(int day, int place, int kind, int coins) {
        return isDay(day) && isPlace(place) && isBetween(kind, 0, KINDS - 1)
            && isBetween(coins, 0, MOST_COINS);
    }

    private static boolean isPolicyNumber(int what, int number) {
        return what >= 0 && what < POLICY_LEAST.length && what < POLICY_GREATEST.length
            && isBetween(number, POLICY_LEAST[what], POLICY_GREATEST[what]);
    }

    // ---- changes

    private void keepForUndo() {
        newest = (newest + 1) % MOST_UNDOS;
        State slot = newest >= 0 && newest < past.length ? past[newest] : null;
        if (slot != null) {
            slot.become(now);
        }
        undoable = Math.min(MOST_UNDOS, undoable + 1);
        isSettled = false;
    }

    private int sign(Contract contract) {
        keepForUndo();
        now.addContract(contract);
        return now.contracts - 1;
    }

    // ---- answers

    /** Works out all YEARS, but only once for as long as nothing is told. */
    private void settle() {
        if (isSettled) {
            return;
        }
        int step = FIRST_STEP;
        for (int year = 0; year < YEARS; year++) {
            YearBook book = bookOf(year);
            workOut(book, now, year);
            book.setPremium(now, step);
            step = book.stepBehind();
        }
        isSettled = true;
    }

    private void workOut(YearBook book, State state, int year) {
        book.begin(state, year);
        for (int place = 0; place < PLACES; place++) {
            desk.load(state, book, place);
            desk.solve(state);
            book.followLeaders(desk);
        }
        book.gatherEvents(state);
        book.settleOwed(state);
        book.settleDue(state, sharing);
        book.shareOut(state, sharing);
        book.cede(state);
        book.addUp(state);
    }

    private YearBook bookOf(int year) {
        YearBook book = year >= 0 && year < books.length ? books[year] : null;
        return book == null ? trialBook : book;
    }

    private void partAnew(int year, int place) {
        desk.load(now, bookOf(year), place);
        desk.solve(now);
    }

    private int lossFact(Loss it, int loss, int what) {
        switch (what) {
            case 0: return it.day;
            case 1: return it.place;
            case 2: return it.kind;
            case 3: return it.coinsAt(now.today);
            case 4: return now.coveredOf(it);
            case 5: return it.reports();
            case 6: return it.backAt(now.today);
            case 7: return it.year();
            default: return bookOf(it.year()).eventOfLoss.get(loss);
        }
    }

    private int houseFact(int what) {
        switch (what) {
            case 0: return now.losses;
            case 1: return now.insurers;
            case 2: return now.contracts;
            case 3: return undoable;
            case 4: return now.today;
            case 5: return now.way;
            case 6: return now.rule;
            case 7: return countingLosses();
            case 8: return allEvents();
            case 9: return now.failed;
            default: return knocks;
        }
    }

    private int countingLosses() {
        int count = 0;
        for (int year = 0; year < YEARS; year++) {
            count += bookOf(year).counting;
        }
        return count;
    }

    private int allEvents() {
        int count = 0;
        for (int year = 0; year < YEARS; year++) {
            count += bookOf(year).events;
        }
        return count;
    }

    private void writeWorst() {
        int worstYear = NONE;
        int worstNth = NONE;
        int worstNet = NONE;
        for (int year = 0; year < YEARS; year++) {
            YearBook book = bookOf(year);
            for (int nth = 0; nth < book.events; nth++) {
                int net = book.fact(nth, EVENT_NET);
                if (net > worstNet) {
                    worstYear = year;
                    worstNth = nth;
                    worstNet = net;
                }
            }
        }
        if (worstYear != NONE) {
            text.append(worstYear).append(':').append(worstNth).append(':');
            writeMoney(text, worstNet);
        }
    }

    private static void writeMoney(StringBuilder out, int coins) {
        // a long, as the least int has no int against it
        long amount = coins;
        if (amount < 0) {
            out.append('-');
            amount = -amount;
        }
        int hundredths = (int) (amount % 100);
        out.append((int) (amount / 100)).append('.');
        out.append((char) ('0' + hundredths / 10)).append((char) ('0' + hundredths % 10));
    }

    private void writeGrowth(int age) {
        fraction.clear();
        growBy(age);
        fraction.write(text);
    }

    private void writeUltimate(int year) {
        YearBook book = bookOf(year);
        int age = book.greatestKnownAge();
        if (age == NONE) {
            text.append('-');
            return;
        }
        fraction.clear();
        fraction.times(book.cums.get(age), 1);
        for (int next = age; next < AGES - 1; next++) {
            growBy(next);
        }
        fraction.write(text);
    }

    private void growBy(int age) {
        int top = 0;
        int bottom = 0;
        for (int year = 0; year < YEARS; year++) {
            Row cums = bookOf(year).cums;
            if (cums.get(age + 1) != NONE) {
                top += cums.get(age + 1);
                bottom += cums.get(age);
            }
        }
        if (bottom > 0) {
            fraction.times(top, bottom);
        }
    }

    private boolean areAllYearsSound() {
        for (int year = 0; year < YEARS; year++) {
            YearBook book = bookOf(year);
            boolean isYearSound = book.isBalanced(now) && book.arePartsWithinSums(now)
                && arePartingsGreatest(year) && book.isOwnAlikeBackwards(now)
                && book.areLayersWithinBounds(now)
                && book.netsBehindShare(SOUND_PERCENT) <= book.totals.get(YEAR_NETS);
            if (!isYearSound) {
                return false;
            }
        }
        return true;
    }

    private boolean arePartingsGreatest(int year) {
        for (int place = 0; place < PLACES; place++) {
            partAnew(year, place);
            if (desk.heldPaid() != Parting.greatestByTrying(desk, 0)) {
                return false;
            }
        }
        return true;
    }

    // ---- digest

    private static long mixed(long d, long v) {
        return d * 31 + v;
    }

    private long withLosses(long start) {
        long d = start;
        for (int loss = 0; loss < now.losses; loss++) {
            Loss it = now.lossAt(loss);
            for (int what = 0; it != null && what < LOSS_FACTS; what++) {
                d = mixed(d, lossFact(it, loss, what));
            }
        }
        return d;
    }

    private long withYear(long start, int year) {
        YearBook book = bookOf(year);
        long d = start;
        for (int what = 0; what < YEAR_FACTS; what++) {
            d = mixed(d, book.totals.get(what));
        }
        for (int place = 0; place < PLACES; place++) {
            partAnew(year, place);
            text.setLength(0);
            desk.write(text);
            d = mixed(mixed(d, desk.ways.get(0)), text.length());
        }
        for (int nth = 0; nth < book.events; nth++) {
            d = withEvent(d, book, nth);
        }
        for (int contract = 0; contract < now.contracts; contract++) {
            Contract it = now.contractAt(contract);
            for (int what = 0; it != null && what < CONTRACT_FACTS; what++) {
                d = mixed(d, it.factFor(book.took.get(contract), what));
            }
        }
        for (int age = 0; age < AGES; age++) {
            d = mixed(d, book.cums.get(age));
        }
        text.setLength(0);
        writeUltimate(year);
        return mixed(d, text.length());
    }

    private long withEvent(long start, YearBook book, int nth) {
        long d = start;
        for (int what = 0; what < EVENT_FACTS; what++) {
            d = mixed(d, book.fact(nth, what));
        }
        for (int insurer = 0; insurer < now.insurers; insurer++) {
            d = mixed(d, book.partOf(nth, insurer));
        }
        for (int contract = 0; contract < now.contracts; contract++) {
            d = mixed(d, book.takenBy(nth, contract));
        }
        text.setLength(0);
        book.writeReasons(text, now, nth);
        return mixed(d, text.length());
    }

    private long withContracts(long start) {
        long d = start;
        for (int contract = 0; contract < now.contracts; contract++) {
            Contract it = now.contractAt(contract);
            if (it != null) {
                text.setLength(0);
                it.write(text);
                d = mixed(d, text.length());
            }
        }
        return d;
    }

    /** A row of numbers that tests each index: outside of it stands 0, and nothing is put there. */
    private static final class Row {
        private final int[] cells;

        Row(int length) {
            cells = new int[Math.max(0, length)];
        }

        int get(int at) {
            return at >= 0 && at < cells.length ? cells[at] : 0;
        }

        void put(int at, int number) {
            if (at >= 0 && at < cells.length) {
                cells[at] = number;
            }
        }

        void add(int at, int more) {
            if (at >= 0 && at < cells.length) {
                cells[at] += more;
            }
        }

        void fill(int number) {
            for (int i = 0; i < cells.length; i++) {
                cells[i] = number;
            }
        }

        void become(Row other) {
            for (int i = 0; i < cells.length && i < other.cells.length; i++) {
                cells[i] = other.cells[i];
            }
        }

        int total() {
            int all = 0;
            for (int i = 0; i < cells.length; i++) {
                all += cells[i];
            }
            return all;
        }
    }

    /** A REPORT that knows those ahead of it; it never changes, so that States can share it. */
    private static final class Report {
        final int known;
        final int coins;
        final Report before;
        final int count;

        Report(int known, int coins, Report before) {
            this.known = known;
            this.coins = coins;
            this.before = before;
            this.count = before == null ? 1 : before.count + 1;
        }
    }

    /** A LOSS; it never changes, so that States can share it. */
    private static final class Loss {
        final int day;
        final int place;
        final int kind;
        final int back;
        final Report last;

        Loss(int day, int place, int kind, int back, Report last) {
            this.day = day;
            this.place = place;
            this.kind = kind;
            this.back = back;
            this.last = last;
        }

        Loss withLast(Report report) {
            return new Loss(day, place, kind, back, report);
        }

        Loss withBack(int coins) {
            return new Loss(day, place, kind, coins, last);
        }

        int year() {
            return day / YEAR_DAYS;
        }

        int reports() {
            return last == null ? 0 : last.count;
        }

        int lastKnown() {
            return last == null ? NONE : last.known;
        }

        int coinsAt(int at) {
            for (Report it = last; it != null; it = it.before) {
                if (it.known <= at) {
                    return it.coins;
                }
            }
            return 0;
        }

        int backAt(int at) {
            return Math.min(back, coinsAt(at));
        }
    }

    /** A CONTRACT; it never changes, so that States can share it. */
    private static final class Contract {
        final int kind;
        final int percent;
        final int from;
        final int wide;
        final int again;
        final int price;

        Contract(int kind, int percent, int from, int wide, int again, int price) {
            this.kind = kind;
            this.percent = percent;
            this.from = from;
            this.wide = wide;
            this.again = again;
            this.price = price;
        }

        boolean isLayer() {
            return kind == LAYER;
        }

        boolean hasCoinOf(Contract other) {
            return from < other.from + other.wide && other.from < from + wide;
        }

        int coinsWithin(int amount) {
            return Math.min(Math.max(0, amount - from), wide);
        }

        int mostInYear() {
            if (kind == STOP) {
                return wide;
            }
            return kind == SHARE || again == AGAIN_WITHOUT_END ? NONE : wide * (again + 1);
        }

        int priceFor(int took) {
            if (kind != LAYER || wide <= 0) {
                return 0;
            }
            int paidAgain = again == AGAIN_WITHOUT_END ? took : Math.min(took, wide * again);
            return (int) ((long) price * paidAgain / wide);
        }

        int factFor(int took, int what) {
            if (what == 0) {
                return took;
            }
            if (what == 1) {
                return priceFor(took);
            }
            int most = mostInYear();
            return most == NONE ? NONE : most - took;
        }

        void write(StringBuilder out) {
            if (kind == SHARE) {
                out.append("share ").append(percent);
                return;
            }
            out.append(kind == LAYER ? "layer " : "stop ").append(from).append('+').append(wide);
            if (kind == LAYER) {
                out.append('*').append(again).append('@').append(price);
            }
        }
    }

    /** All that was told. */
    private static final class State {
        int today = LAST_DAY;
        int rule = 0;
        int way = 0;
        int failed = 0;
        int losses = 0;
        int insurers = 1;
        int contracts = 0;
        final Row policy = new Row(POLICY_NUMBERS);
        final Row sums = new Row(MOST_INSURERS);
        private final Loss[] lossRow = new Loss[LOSS_ROOM];
        private final Contract[] contractRow = new Contract[MOST_CONTRACTS];

        State() {
            for (int i = 0; i < POLICY_AT_FIRST.length; i++) {
                policy.put(i, POLICY_AT_FIRST[i]);
            }
            sums.put(0, MOST_COINS);
        }

        void become(State other) {
            today = other.today;
            rule = other.rule;
            way = other.way;
            failed = other.failed;
            losses = other.losses;
            insurers = other.insurers;
            contracts = other.contracts;
            policy.become(other.policy);
            sums.become(other.sums);
            for (int i = 0; i < lossRow.length && i < other.lossRow.length; i++) {
                lossRow[i] = other.lossRow[i];
            }
            for (int i = 0; i < contractRow.length && i < other.contractRow.length; i++) {
                contractRow[i] = other.contractRow[i];
            }
        }

        Loss lossAt(int at) {
            return at >= 0 && at < losses && at < lossRow.length ? lossRow[at] : null;
        }

        void putLoss(int at, Loss loss) {
            if (at >= 0 && at < lossRow.length) {
                lossRow[at] = loss;
            }
        }

        void addLoss(Loss loss) {
            if (losses < lossRow.length) {
                putLoss(losses, loss);
                losses++;
            }
        }

        Contract contractAt(int at) {
            return at >= 0 && at < contracts && at < contractRow.length ? contractRow[at] : null;
        }

        void addContract(Contract contract) {
            if (contracts >= 0 && contracts < contractRow.length) {
                contractRow[contracts] = contract;
                contracts++;
            }
        }

        boolean meetsLastBlock(Contract layer) {
            for (int i = contracts - 1; i >= 0; i--) {
                Contract other = contractAt(i);
                if (other == null || !other.isLayer()) {
                    return false;
                }
                if (layer.hasCoinOf(other)) {
                    return true;
                }
            }
            return false;
        }

        boolean hasFailed(int insurer) {
            return (failed >> insurer & 1) == 1;
        }

        int kindOf(int loss) {
            Loss it = lossAt(loss);
            return it == null ? 0 : it.kind;
        }

        int coveredOf(Loss loss) {
            if (loss.day < policy.get(WAIT)) {
                return 0;
            }
            int coins = loss.coinsAt(today);
            int value = policy.get(VALUE);
            if (policy.get(INSURED) >= value || value <= 0) {
                return coins;
            }
            return (int) ((long) coins * policy.get(INSURED) / value);
        }

        int paidOf(int gross) {
            int mode = policy.get(OWN_MODE);
            long own = policy.get(OWN);
            if (mode == 1) {
                own = (gross * own + 99) / 100;
            } else if (mode == 2 && gross > policy.get(LINE)) {
                own = 0;
            }
            int ownPart = (int) Math.min(gross, own);
            return Math.min(gross - ownPart, policy.get(EVENT_BOUND));
        }
    }

    /** The LOSSES of one YEAR and PLACE that COUNT, in ORDER, and what of their PARTINGS is asked. */
    private static final class Parting {
        int count = 0;
        final Row losses = new Row(LOSS_ROOM);
        /** How many LOSSES the first EVENT has in the PARTING that holds from a LOSS on. */
        final Row sizes = new Row(LOSS_ROOM);
        final Row greatest = new Row(LOSS_ROOM + 1);
        final Row least = new Row(LOSS_ROOM + 1);
        final Row ways = new Row(LOSS_ROOM + 1);
        private final Row fewest = new Row(LOSS_ROOM + 1);
        private final Row days = new Row(LOSS_ROOM);
        private final Row covered = new Row(LOSS_ROOM);
        /** PAID of the EVENT from one LOSS to another one; NONE, if it would be too long. */
        private final Row paids = new Row(LOSS_ROOM * LOSS_ROOM);

        void load(State state, YearBook book, int place) {
            count = 0;
            for (int i = 0; i < book.counting; i++) {
                Loss it = state.lossAt(book.order.get(i));
                if (it != null && it.place == place) {
                    losses.put(count, book.order.get(i));
                    days.put(count, it.day);
                    covered.put(count, state.coveredOf(it));
                    count++;
                }
            }
        }

        void solve(State state) {
            greatest.put(count, 0);
            least.put(count, 0);
            fewest.put(count, 0);
            ways.put(count, 1);
            for (int first = count - 1; first >= 0; first--) {
                solveFrom(state, first);
            }
        }

        private void solveFrom(State state, int first) {
            int gross = 0;
            greatest.put(first, NONE);
            least.put(first, NONE);
            ways.put(first, 0);
            for (int end = first; end < count; end++) {
                gross += covered.get(end);
                boolean fits = days.get(end) - days.get(first) <= state.policy.get(SPAN);
                int paid = fits ? state.paidOf(gross) : NONE;
                paids.put(first * LOSS_ROOM + end, paid);
                if (fits) {
                    takeFirstEvent(first, end, paid);
                }
            }
        }

        /** Of two as good ones the later one is taken, as its first EVENT has more LOSSES. */
        private void takeFirstEvent(int first, int end, int paid) {
            int most = paid + greatest.get(end + 1);
            int events = 1 + fewest.get(end + 1);
            int held = greatest.get(first);
            if (most > held || most == held && events <= fewest.get(first)) {
                greatest.put(first, most);
                fewest.put(first, events);
                sizes.put(first, end + 1 - first);
            }
            int low = paid + least.get(end + 1);
            if (least.get(first) == NONE || low < least.get(first)) {
                least.put(first, low);
            }
            ways.add(first, ways.get(end + 1));
        }

        private int sizeFrom(int first) {
            return Math.max(1, sizes.get(first));
        }

        int heldPaid() {
            int all = 0;
            int next = 0;
            for (int i = 0; i < count; i++) {
                if (i == next) {
                    next += sizeFrom(i);
                    all += paids.get(i * LOSS_ROOM + next - 1);
                }
            }
            return all;
        }

        /** Goes as deep as there are LOSSES, as each EVENT has one at least. */
        private static int greatestByTrying(Parting it, int first) {
            if (first >= it.count || first >= LOSS_ROOM) {
                return 0;
            }
            int best = NONE;
            for (int end = first; end < it.count; end++) {
                int paid = it.paids.get(first * LOSS_ROOM + end);
                if (paid != NONE) {
                    best = Math.max(best, paid + greatestByTrying(it, end + 1));
                }
            }
            return best;
        }

        void write(StringBuilder out) {
            int next = 0;
            for (int i = 0; i < count; i++) {
                if (i == next) {
                    next += sizeFrom(i);
                    if (i > 0) {
                        out.append('|');
                    }
                } else {
                    out.append(' ');
                }
                out.append(losses.get(i));
            }
        }
    }

    /** How an amount is shared by some; the rows are made once and used again for each amount. */
    private static final class Sharing {
        final Row parts = new Row(MOST_INSURERS);
        final Row weights = new Row(MOST_INSURERS);
        private final Row rests = new Row(MOST_INSURERS);
        /** What each may get still. */
        private final Row rooms = new Row(MOST_INSURERS);

        void shareDue(State state, int due) {
            int amount = Math.min(due, allSums(state));
            parts.fill(0);
            if (state.way == WAY_ALIKE) {
                rooms.become(state.sums);
                spread(amount, state.insurers);
            } else if (state.way == WAY_SUMS) {
                weighBySums(state, MOST_COINS);
                split(amount, state.insurers);
            } else if (state.way == WAY_ALONE) {
                // together these are never below the amount; as much as it, SPLIT gives each one just its own
                weighBySums(state, amount);
                split(amount, state.insurers);
            } else {
                takeByNumbers(state, amount);
            }
        }

        private static int allSums(State state) {
            int all = 0;
            for (int i = 0; i < state.insurers; i++) {
                all += state.sums.get(i);
            }
            return all;
        }

        private void weighBySums(State state, int bound) {
            for (int i = 0; i < state.insurers; i++) {
                weights.put(i, Math.min(state.sums.get(i), bound));
            }
        }

        private void takeByNumbers(State state, int amount) {
            int left = amount;
            for (int i = 0; i < state.insurers; i++) {
                int takes = Math.min(left, state.sums.get(i));
                parts.put(i, takes);
                left -= takes;
            }
        }

        void passOnFailed(State state) {
            int open = 0;
            rooms.fill(0);
            for (int i = 0; i < state.insurers; i++) {
                if (state.hasFailed(i)) {
                    open += parts.get(i);
                    parts.put(i, 0);
                } else {
                    rooms.put(i, state.sums.get(i) - parts.get(i));
                }
            }
            spread(open, state.insurers);
        }

        /** SPLIT by the weights. */
        void split(int amount, int count) {
            long all = 0;
            for (int i = 0; i < count; i++) {
                all += weights.get(i);
            }
            parts.fill(0);
            if (all <= 0) {
                return;
            }
            int left = amount;
            for (int i = 0; i < count; i++) {
                long product = (long) amount * weights.get(i);
                parts.put(i, (int) (product / all));
                rests.put(i, (int) (product % all));
                left -= parts.get(i);
            }
            for (int coin = 0; coin < left && coin < count; coin++) {
                giveToGreatestRest(count);
            }
        }

        private void giveToGreatestRest(int count) {
            int best = 0;
            for (int i = 1; i < count; i++) {
                if (rests.get(i) > rests.get(best)) {
                    best = i;
                }
            }
            parts.add(best, 1);
            rests.put(best, NONE);
        }

        /** SPREAD in addition to the parts; many coins at once, as up to 99999 by one would be slow. */
        private void spread(int amount, int count) {
            int left = amount;
            for (int round = 0; left > 0 && round < count + 2; round++) {
                int open = 0;
                int leastRoom = left;
                for (int i = 0; i < count; i++) {
                    if (rooms.get(i) > 0) {
                        open++;
                        leastRoom = Math.min(leastRoom, rooms.get(i));
                    }
                }
                if (open == 0) {
                    return;
                }
                int each = Math.min(leastRoom, left / open);
                left -= giveEach(Math.max(1, each), left, count);
            }
        }

        private int giveEach(int coins, int most, int count) {
            int given = 0;
            for (int i = 0; i < count && given + coins <= most; i++) {
                if (rooms.get(i) > 0) {
                    parts.add(i, coins);
                    rooms.add(i, -coins);
                    given += coins;
                }
            }
            return given;
        }
    }

    /** One YEAR, worked out. */
    private static final class YearBook {
        int counting = 0;
        int events = 0;
        /** The LOSSES that COUNT, in ORDER, of all PLACES. */
        final Row order = new Row(LOSS_ROOM);
        final Row eventOfLoss = new Row(LOSS_ROOM);
        final Row totals = new Row(YEAR_FACTS);
        final Row cums = new Row(AGES);
        /** What each CONTRACT took in the YEAR. */
        final Row took = new Row(MOST_CONTRACTS);
        private int year = 0;
        /** The DAYS of the LOSSES in ORDER. */
        private final Row days = new Row(LOSS_ROOM);
        /** For each LOSS the first one of its EVENT. */
        private final Row leaders = new Row(LOSS_ROOM);
        private final Row facts = new Row(LOSS_ROOM * EVENT_FACTS);
        private final Row parts = new Row(LOSS_ROOM * MOST_INSURERS);
        private final Row takes = new Row(LOSS_ROOM * MOST_CONTRACTS);
        private final Row kindLeft = new Row(KINDS);
        /** What was left ahead of each STOP in the YEAR together. */
        private final Row stopped = new Row(MOST_CONTRACTS);

        int fact(int nth, int what) {
            return facts.get(nth * EVENT_FACTS + what);
        }

        private void setFact(int nth, int what, int number) {
            facts.put(nth * EVENT_FACTS + what, number);
        }

        int partOf(int nth, int insurer) {
            return parts.get(nth * MOST_INSURERS + insurer);
        }

        int takenBy(int nth, int contract) {
            return takes.get(nth * MOST_CONTRACTS + contract);
        }

        private int totalFact(int what) {
            int all = 0;
            for (int nth = 0; nth < events; nth++) {
                all += fact(nth, what);
            }
            return all;
        }

        int partsOf(int insurer) {
            int all = 0;
            for (int nth = 0; nth < events; nth++) {
                all += partOf(nth, insurer);
            }
            return all;
        }

        /** Takes up the LOSSES of the YEAR. */
        void begin(State state, int nextYear) {
            year = nextYear;
            counting = 0;
            totals.fill(0);
            eventOfLoss.fill(NONE);
            for (int age = 0; age < AGES; age++) {
                cums.put(age, isKnown(state, age) ? 0 : NONE);
            }
            for (int loss = 0; loss < state.losses; loss++) {
                Loss it = state.lossAt(loss);
                if (it != null && it.year() == year) {
                    takeUp(state, it, loss);
                }
            }
        }

        private int lastDayOf(int age) {
            return YEAR_DAYS * (year + age + 1) - 1;
        }

        private boolean isKnown(State state, int age) {
            return lastDayOf(age) <= state.today && lastDayOf(age) <= LAST_DAY;
        }

        private void takeUp(State state, Loss it, int loss) {
            totals.add(YEAR_SUMS, it.coinsAt(state.today));
            totals.add(YEAR_BACK, it.backAt(state.today));
            for (int age = 0; age < AGES; age++) {
                if (isKnown(state, age)) {
                    cums.add(age, it.coinsAt(lastDayOf(age)));
                }
            }
            if (state.coveredOf(it) > 0) {
                putInOrder(it.day, loss);
            }
        }

        private void putInOrder(int day, int loss) {
            int at = counting;
            while (at > 0 && days.get(at - 1) > day) {
                days.put(at, days.get(at - 1));
                order.put(at, order.get(at - 1));
                at--;
            }
            days.put(at, day);
            order.put(at, loss);
            counting++;
        }

        void followLeaders(Parting parting) {
            int leader = 0;
            int next = 0;
            for (int i = 0; i < parting.count; i++) {
                if (i == next) {
                    leader = parting.losses.get(i);
                    next += parting.sizeFrom(i);
                }
                leaders.put(parting.losses.get(i), leader);
            }
        }

        void gatherEvents(State state) {
            events = 0;
            facts.fill(0);
            for (int i = 0; i < counting; i++) {
                int loss = order.get(i);
                int leader = leaders.get(loss);
                if (leader == loss) {
                    eventOfLoss.put(loss, events);
                    setFact(events, EVENT_FIRST, loss);
                    events++;
                }
                int nth = eventOfLoss.get(leader);
                eventOfLoss.put(loss, nth);
                Loss it = state.lossAt(loss);
                if (it != null) {
                    addToEvent(state, it, nth * EVENT_FACTS);
                }
            }
        }

        private void addToEvent(State state, Loss it, int start) {
            facts.add(start + EVENT_SIZE, 1);
            facts.add(start + EVENT_GROSS, state.coveredOf(it));
            facts.add(start + EVENT_WHOLE, it.coinsAt(state.today));
            facts.add(start + EVENT_RECOVERED, it.backAt(state.today));
            facts.put(start + EVENT_PLACE, it.place);
        }

        void settleOwed(State state) {
            fillKindLeft(state);
            int ownLeft = state.policy.get(YEAR_OWN);
            int boundLeft = state.policy.get(YEAR_BOUND);
            for (int nth = 0; nth < events; nth++) {
                setFact(nth, EVENT_PAID, state.paidOf(fact(nth, EVENT_GROSS)));
                int kept = keep(state, nth);
                int off = Math.min(kept, ownLeft);
                int owed = Math.min(kept - off, boundLeft);
                setFact(nth, EVENT_KEPT, kept);
                setFact(nth, EVENT_OWN_OFF, off);
                setFact(nth, EVENT_OWED, owed);
                ownLeft -= off;
                boundLeft -= owed;
            }
            totals.put(YEAR_OWN_LEFT, ownLeft);
            totals.put(YEAR_BOUND_LEFT, boundLeft);
        }

        private void fillKindLeft(State state) {
            for (int kind = 0; kind < KINDS; kind++) {
                kindLeft.put(kind, state.policy.get(KIND_BOUND + kind));
            }
        }

        /** KEPT of an EVENT; it uses up the KIND BOUND. */
        private int keep(State state, int nth) {
            int kind = state.kindOf(fact(nth, EVENT_FIRST));
            int kept = Math.min(fact(nth, EVENT_PAID), kindLeft.get(kind));
            kindLeft.add(kind, -kept);
            return kept;
        }

        void settleDue(State state, Sharing sharing) {
            for (int nth = 0; nth < events; nth++) {
                int owed = fact(nth, EVENT_OWED);
                setFact(nth, EVENT_DUE, owed - backToInsurers(state, sharing, nth));
            }
        }

        private int backToInsurers(State state, Sharing sharing, int nth) {
            int owed = fact(nth, EVENT_OWED);
            int notOwed = fact(nth, EVENT_WHOLE) - owed;
            int recovered = fact(nth, EVENT_RECOVERED);
            if (state.rule == 0) {
                return Math.max(0, recovered - notOwed);
            }
            if (state.rule == 1) {
                return Math.min(owed, recovered);
            }
            sharing.weights.put(0, notOwed);
            sharing.weights.put(1, owed);
            sharing.split(recovered, 2);
            return sharing.parts.get(1);
        }

        void shareOut(State state, Sharing sharing) {
            for (int nth = 0; nth < events; nth++) {
                sharing.shareDue(state, fact(nth, EVENT_DUE));
                sharing.passOnFailed(state);
                for (int i = 0; i < MOST_INSURERS; i++) {
                    parts.put(nth * MOST_INSURERS + i, sharing.parts.get(i));
                }
            }
        }

        /** Lets the CONTRACTS take. */
        void cede(State state) {
            took.fill(0);
            stopped.fill(0);
            takes.fill(0);
            for (int nth = 0; nth < events; nth++) {
                cedeEvent(state, nth);
            }
        }

        private void cedeEvent(State state, int nth) {
            int left = partOf(nth, 0);
            int ahead = left;
            boolean isInBlock = false;
            for (int i = 0; i < state.contracts; i++) {
                Contract it = state.contractAt(i);
                if (it != null) {
                    if (!isInBlock || !it.isLayer()) {
                        ahead = left;
                    }
                    isInBlock = it.isLayer();
                    int bite = biteOf(it, i, ahead);
                    takes.put(nth * MOST_CONTRACTS + i, bite);
                    took.add(i, bite);
                    left -= bite;
                }
            }
            setFact(nth, EVENT_NET, left);
        }

        private int biteOf(Contract it, int at, int ahead) {
            if (it.kind == SHARE) {
                return ahead * it.percent / 100;
            }
            if (it.kind == STOP) {
                stopped.add(at, ahead);
                return it.coinsWithin(stopped.get(at)) - took.get(at);
            }
            int most = it.mostInYear();
            int bite = it.coinsWithin(ahead);
            return most == NONE ? bite : Math.min(bite, most - took.get(at));
        }

        void addUp(State state) {
            int all = 0;
            for (int insurer = 0; insurer < state.insurers; insurer++) {
                all += partsOf(insurer);
            }
            totals.put(YEAR_PARTS, all);
            totals.put(YEAR_BORNE, totals.get(YEAR_SUMS) - all - totals.get(YEAR_BACK));
            totals.put(YEAR_NETS, totalFact(EVENT_NET));
            totals.put(YEAR_TAKEN, took.total());
            for (int i = 0; i < state.contracts; i++) {
                Contract it = state.contractAt(i);
                if (it != null) {
                    totals.add(YEAR_PRICES, it.priceFor(took.get(i)));
                }
            }
        }

        void setPremium(State state, int step) {
            int days = Math.max(0, Math.min(YEAR_DAYS, YEAR_DAYS * (year + 1) - state.policy.get(WAIT)));
            long hundredths = (long) state.policy.get(BASE) * (50 + 15 * step) * days;
            totals.put(YEAR_STEP, step);
            totals.put(YEAR_PREMIUM, (int) (hundredths / (100 * YEAR_DAYS)));
        }

        int stepBehind() {
            int step = totals.get(YEAR_STEP);
            int dues = 0;
            for (int nth = 0; nth < events; nth++) {
                if (fact(nth, EVENT_DUE) > 0) {
                    dues++;
                }
            }
            return dues == 0 ? Math.max(0, step - 1) : Math.min(LAST_STEP, step + 2 * dues);
        }

        int greatestKnownAge() {
            for (int age = AGES - 1; age >= 0; age--) {
                if (cums.get(age) != NONE) {
                    return age;
                }
            }
            return NONE;
        }

        int netsBehindShare(int percent) {
            int all = 0;
            for (int nth = 0; nth < events; nth++) {
                int net = fact(nth, EVENT_NET);
                all += net - net * percent / 100;
            }
            return all;
        }

        void writeReasons(StringBuilder out, State state, int nth) {
            out.append(fact(nth, EVENT_WHOLE)).append('>').append(fact(nth, EVENT_GROSS));
            out.append('>').append(fact(nth, EVENT_PAID)).append('>').append(fact(nth, EVENT_KEPT));
            out.append('>').append(fact(nth, EVENT_OWED)).append('>').append(fact(nth, EVENT_DUE));
            for (int i = 0; i < state.insurers; i++) {
                out.append(i == 0 ? '=' : '+').append(partOf(nth, i));
            }
            out.append('=');
            for (int i = 0; i < state.contracts; i++) {
                out.append(takenBy(nth, i)).append('+');
            }
            out.append(fact(nth, EVENT_NET));
        }

        boolean isBalanced(State state) {
            int all = totals.get(YEAR_BORNE) + totals.get(YEAR_NETS) + totals.get(YEAR_TAKEN)
                + totals.get(YEAR_BACK);
            for (int insurer = 1; insurer < state.insurers; insurer++) {
                all += partsOf(insurer);
            }
            return all == totals.get(YEAR_SUMS);
        }

        boolean arePartsWithinSums(State state) {
            for (int nth = 0; nth < events; nth++) {
                for (int i = 0; i < state.insurers; i++) {
                    if (partOf(nth, i) > state.sums.get(i)) {
                        return false;
                    }
                }
            }
            return true;
        }

        boolean isOwnAlikeBackwards(State state) {
            fillKindLeft(state);
            int ownLeft = state.policy.get(YEAR_OWN);
            for (int nth = events - 1; nth >= 0; nth--) {
                ownLeft -= Math.min(keep(state, nth), ownLeft);
            }
            return ownLeft == totals.get(YEAR_OWN_LEFT);
        }

        boolean areLayersWithinBounds(State state) {
            for (int i = 0; i < state.contracts; i++) {
                Contract it = state.contractAt(i);
                if (it != null && it.isLayer() && !isWithinBounds(it, i)) {
                    return false;
                }
            }
            return true;
        }

        private boolean isWithinBounds(Contract layer, int at) {
            int most = layer.mostInYear();
            for (int nth = 0; nth < events; nth++) {
                if (takenBy(nth, at) > layer.wide) {
                    return false;
                }
            }
            return most == NONE || took.get(at) <= most;
        }
    }

    /** A product of fractions. It is kept in factors, as its top may be above the greatest long. */
    private static final class Fraction {
        private static final int BASE_OF_LIMBS = 1000000000;
        private static final int FACTORS = 4;
        private static final int LIMBS = 4;
        private int count = 0;
        private final Row tops = new Row(FACTORS);
        private final Row bottoms = new Row(FACTORS);
        private final Row limbs = new Row(LIMBS);

        void clear() {
            count = 0;
        }

        void times(int top, int bottom) {
            if (count < FACTORS && bottom > 0) {
                tops.put(count, top);
                bottoms.put(count, bottom);
                count++;
            }
        }

        void write(StringBuilder out) {
            lower();
            writeProduct(out, tops);
            for (int i = 0; i < count; i++) {
                if (bottoms.get(i) != 1) {
                    out.append('/');
                    writeProduct(out, bottoms);
                    return;
                }
            }
        }

        /** Makes each top prime to each bottom, so that their products are so, too. */
        private void lower() {
            for (int i = 0; i < count; i++) {
                for (int j = 0; j < count; j++) {
                    int common = commonDivisor(tops.get(i), bottoms.get(j));
                    if (common > 0) {
                        tops.put(i, tops.get(i) / common);
                        bottoms.put(j, bottoms.get(j) / common);
                    }
                }
            }
        }

        private static int commonDivisor(int one, int other) {
            int a = one;
            int b = other;
            for (int i = 0; b > 0 && i < MOST_COINS; i++) {
                int rest = a % b;
                a = b;
                b = rest;
            }
            return a;
        }

        private void writeProduct(StringBuilder out, Row factors) {
            limbs.fill(0);
            limbs.put(0, 1);
            for (int i = 0; i < count; i++) {
                multiply(factors.get(i));
            }
            int top = LIMBS - 1;
            while (top > 0 && limbs.get(top) == 0) {
                top--;
            }
            out.append(limbs.get(top));
            for (int i = top - 1; i >= 0; i--) {
                for (int unit = BASE_OF_LIMBS / 10; unit > 0; unit /= 10) {
                    out.append((char) ('0' + limbs.get(i) / unit % 10));
                }
            }
        }

        private void multiply(int factor) {
            long carry = 0;
            for (int i = 0; i < LIMBS; i++) {
                long limb = (long) limbs.get(i) * factor + carry;
                limbs.put(i, (int) (limb % BASE_OF_LIMBS));
                carry = limb / BASE_OF_LIMBS;
            }
        }
    }
}
