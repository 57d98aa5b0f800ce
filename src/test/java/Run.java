import java.util.ArrayList;
import java.util.Arrays;
import java.util.List;
import java.util.Map;
import java.util.TreeMap;
import java.util.TreeSet;

/** A run of calls on one tower, each with the answer that is due. It is begun with the sentence that it tests. */
final class Run {
    static final int MIN = Integer.MIN_VALUE;
    static final int MAX = Integer.MAX_VALUE;
    static final String INDEX = "throws.IndexOutOfBoundsException";
    static final String ARGUMENT = "throws.IllegalArgumentException";
    static final String STATE = "throws.IllegalStateException";

    private final String sentence;
    private final List<Object[]> told = new ArrayList<>();
    private final Counted tower = new Counted();
    /** What was seen, and behind how many calls. */
    private String seenNow = "";
    private int seenBehind = -1;

    private Run(String sentence) {
        this.sentence = sentence;
    }

    static Run of(String sentence) {
        return new Run(sentence);
    }

    /** A tower that is not asked more often than the document lets one ask it. */
    private static final class Counted {
        private static final int MOST_CALLS = 512;
        private final Claimtower tower = new Claimtower();
        private int calls = 0;

        Object answer(Object... call) {
            calls++;
            if (calls > MOST_CALLS) {
                throw new IllegalStateException("the test itself calls too often");
            }
            return Calls.answer(tower, (String) call[0], Arrays.copyOfRange(call, 1, call.length));
        }

        int number(Object... call) {
            return (Integer) answer(call);
        }
    }

    private static Object[] call(String name, Object... arguments) {
        Object[] call = new Object[arguments.length + 1];
        call[0] = name;
        System.arraycopy(arguments, 0, call, 1, arguments.length);
        return call;
    }

    private void check(Object got, Object due, String name, Object... arguments) {
        Calls.check(sentence + ": " + Calls.told(name, arguments), got, due);
    }

    /** The call answers what is due. */
    Run due(Object due, String name, Object... arguments) {
        Object[] call = call(name, arguments);
        told.add(call);
        check(tower.answer(call), due, name, arguments);
        return this;
    }

    /** Calls that all answer what is due, one for each row of arguments. */
    Run dueEach(Object due, String name, int[]... rows) {
        for (int[] row : rows) {
            due(due, name, boxed(row));
        }
        return this;
    }

    /** The call is refused, or only asks: it answers what is due, and nothing is another one behind it. */
    Run unchanged(Object due, String name, Object... arguments) {
        Object[] call = call(name, arguments);
        check(again().answer(call), due, name, arguments);
        return unchangedBy(name, arguments);
    }

    /** All that can be seen is seen again behind the call. */
    Run unchangedBy(String name, Object... arguments) {
        if (seenBehind != told.size()) {
            seenBehind = told.size();
            seenNow = seen();
        }
        Calls.check(sentence + ": what stands behind " + Calls.told(name, arguments), seen(call(name, arguments)), seenNow);
        return this;
    }

    Run unchangedEach(Object due, String name, int[]... rows) {
        for (int[] row : rows) {
            unchanged(due, name, boxed(row));
        }
        return this;
    }

    /** The argument may be from least to greatest; one less or more, or far off, is answered by the exception. */
    Run bounds(String thrown, int at, int least, int greatest, String name, Object... arguments) {
        for (int wrong : new int[] {least - 1, greatest + 1, MIN, MAX}) {
            unchanged(thrown, name, with(arguments, at, wrong));
        }
        for (int right : new int[] {least, greatest}) {
            Object answer = again().answer(call(name, with(arguments, at, right)));
            check(answer.toString().startsWith("throws."), false, name + " throws", with(arguments, at, right));
        }
        return this;
    }

    private static Object[] with(Object[] arguments, int at, int number) {
        Object[] other = arguments.clone();
        other[at] = number;
        return other;
    }

    private static Object[] boxed(int[] row) {
        Object[] boxed = new Object[row.length];
        for (int i = 0; i < row.length; i++) {
            boxed[i] = row[i];
        }
        return boxed;
    }

    Run loss(int number, int day, int place, int kind, int sum) {
        return due(number, "loss", day, place, kind, sum, day);
    }

    /** Twelve of 100 coins in one PLACE, a day apart. */
    Run twelveLosses() {
        for (int i = 0; i < 12; i++) {
            loss(i, 10 + i, 0, 0, 100);
        }
        return this;
    }

    Run sixContracts() {
        for (int i = 0; i < 6; i++) {
            due(i, "share", 10);
        }
        return this;
    }

    /** INSURERS with these SUMS. */
    Run sums(int... sums) {
        due(99999, "sum", 0, sums[0]);
        for (int i = 1; i < sums.length; i++) {
            due(i + 1, "insurer", sums[i]);
        }
        return this;
    }

    /** A number of the POLICY; its answer is tested elsewhere. */
    Run set(int what, int number) {
        Object[] call = call("policy", what, number);
        told.add(call);
        check(tower.answer(call).toString().startsWith("throws."), false, "policy throws", what, number);
        return this;
    }

    /** The PARTS of the first EVENT of the YEAR 0. */
    Run parts(int... parts) {
        for (int i = 0; i < parts.length; i++) {
            due(parts[i], "part", 0, 0, i);
        }
        return this;
    }

    /** One number of each EVENT of the YEAR 0. */
    Run eachEvent(int what, int... numbers) {
        due(numbers.length, "events", 0);
        for (int nth = 0; nth < numbers.length; nth++) {
            due(numbers[nth], "event", 0, nth, what);
        }
        return this;
    }

    /** What a CONTRACT takes of each EVENT of the YEAR 0. */
    Run takes(int contract, int... coins) {
        for (int nth = 0; nth < coins.length; nth++) {
            due(coins[nth], "taken", 0, nth, contract);
        }
        return this;
    }

    /** Undoing the call brings back all that stood ahead of it, also if one asked in between; the call then stands. */
    Run undone(Object due, String name, Object... arguments) {
        Object[] call = call(name, arguments);
        String what = sentence + ": what stands behind undo() of " + Calls.told(name, arguments);
        Calls.check(what, now(call, call("undo")), now());
        Calls.check(what + ", asked in between", now(call, call("digest"), call("undo")), now());
        return due(due, name, arguments);
    }

    /** Takes back so many calls, and all that could be seen ahead of them is seen again. */
    Run undoneAgain(int calls) {
        List<Object[]> ahead = new ArrayList<>(told.subList(0, told.size() - calls));
        Run shorter = new Run(sentence);
        shorter.told.addAll(ahead);
        for (int i = 0; i < calls; i++) {
            Object[] call = call("undo");
            told.add(call);
            tower.answer(call);
        }
        Calls.check(sentence + ": what stands behind " + calls + " undos", now(), shorter.now());
        return this;
    }

    /** The call answers what is due, and of all that was told just this is another one behind it; the call then stands. */
    Run changesOnly(String names, Object due, String name, Object... arguments) {
        Map<String, String> ahead = told(again());
        due(due, name, arguments);
        Map<String, String> behind = told(again());
        TreeSet<String> changed = new TreeSet<>(ahead.keySet());
        changed.addAll(behind.keySet());
        changed.removeIf(each -> ahead.containsKey(each) && ahead.get(each).equals(behind.get(each)));
        Calls.check(sentence + ": what " + Calls.told(name, arguments) + " changes", String.join(", ", changed), names);
        return this;
    }

    Object asked(String name, Object... arguments) {
        return tower.answer(call(name, arguments));
    }

    // ---- all that can be seen of a tower; each look takes a new one, as some looks change it

    private Counted again(Object[]... more) {
        Counted other = new Counted();
        for (Object[] each : told) {
            other.answer(each);
        }
        for (Object[] each : more) {
            other.answer(each);
        }
        return other;
    }

    /** What stands, and what can be undone. */
    private String seen(Object[]... more) {
        StringBuilder out = new StringBuilder(now(more));
        seeWhatIsUndone(again(more), out);
        return out.toString();
    }

    /** What stands, without what can be undone. */
    private String now(Object[]... more) {
        StringBuilder out = new StringBuilder();
        seeWhatIsAsked(again(more), out);
        return out.append(' ').append(told(again(more))).toString();
    }

    private static void seeWhatIsAsked(Counted it, StringBuilder out) {
        out.append(it.answer("house", 7)).append(' ').append(it.answer("house", 8)).append(' ').append(it.answer("worst"));
        int losses = it.number("house", 0);
        for (int i = 0; i < losses; i++) {
            out.append(" loss");
            for (int what : new int[] {3, 4, 6, 8}) {
                out.append(' ').append(it.answer("ofLoss", i, what));
            }
        }
        for (int year = 0; year < 4; year++) {
            seeYear(it, year, out);
        }
    }

    private static void seeYear(Counted it, int year, StringBuilder out) {
        out.append(" year ").append(it.answer("ultimate", year)).append(' ').append(it.answer("best", year, 0, true));
        for (int place = 0; place < 3; place++) {
            out.append(' ').append(it.answer("parting", year, place)).append(' ').append(it.answer("partings", year, place));
        }
        for (int what = 0; what <= 10; what++) {
            out.append(' ').append(it.answer("ofYear", year, what));
        }
        int events = it.number("events", year);
        for (int nth = 0; nth < events; nth++) {
            out.append(' ').append(it.answer("why", year, nth));
        }
    }

    /** All that was told, by names. */
    private static Map<String, String> told(Counted it) {
        Map<String, String> told = new TreeMap<>();
        String[] house = {"losses", "insurers", "contracts", null, "today", "way", "rule", null, null, "failed", "knocks"};
        for (int what = 0; what < house.length; what++) {
            if (house[what] != null) {
                told.put(house[what], it.answer("house", what).toString());
            }
        }
        for (int what = 0; what <= 13; what++) {
            told.put("policy " + what, it.answer("number", what).toString());
        }
        int contracts = it.number("house", 2);
        for (int i = 0; i < contracts; i++) {
            told.put("contract " + i, it.answer("contract", i).toString());
        }
        int insurers = it.number("house", 1);
        for (int i = 0; i < insurers; i++) {
            told.put("sum " + i, it.answer("sum", i, 1).toString());
            told.put("failed " + i, it.answer("fail", i, true).toString());
        }
        int losses = it.number("house", 0);
        for (int i = 0; i < losses; i++) {
            tellLoss(it, i, told);
        }
        return told;
    }

    private static void tellLoss(Counted it, int loss, Map<String, String> told) {
        String[] facts = {"day", "place", "kind", null, null, null, null, "year"};
        for (int what = 0; what < facts.length; what++) {
            if (facts[what] != null) {
                told.put("loss " + loss + " " + facts[what], it.answer("ofLoss", loss, what).toString());
            }
        }
        told.put("loss " + loss + " back", it.answer("recover", loss, 0).toString());
        StringBuilder reports = new StringBuilder();
        int count = it.number("ofLoss", loss, 5);
        for (int i = 0; i < count; i++) {
            reports.append(' ').append(it.answer("sumAt", loss, 1459)).append(' ').append(it.answer("sumAt", loss, 400));
            it.answer("unreport", loss);
        }
        told.put("loss " + loss + " reports", count + ":" + reports);
    }

    private static void seeWhatIsUndone(Counted it, StringBuilder out) {
        out.append(" digest ").append(it.answer("digest"));
        int undoable = it.number("house", 3);
        for (int i = 0; i < undoable; i++) {
            out.append(' ').append(it.answer("undo")).append(' ').append(it.answer("digest"));
        }
        out.append(' ').append(it.answer("undo"));
    }
}
