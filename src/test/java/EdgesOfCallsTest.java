/** What a call may say and what it may not: the arguments, exceptions, refusals, undo. A sentence of the document each. */
public final class EdgesOfCallsTest {
    private static final int MAX = Run.MAX;
    private static final String INDEX = Run.INDEX;
    private static final String ARGUMENT = Run.ARGUMENT;
    private static final String STATE = Run.STATE;

    private EdgesOfCallsTest() {
    }

    public static void main(String[] args) {
        daysOfLosses();
        placesKindsSums();
        knownBelowDay();
        atMostTwelveLosses();
        lossesByNumber();
        reportsAndRecoveries();
        risingKnownDays();
        oneReportStays();
        daysOfTodayAndAsking();
        numbersOfThePolicy();
        policyAtFirst();
        rulesAndWays();
        insurersOneToFour();
        insurersByNumber();
        contractsNoneToSix();
        numbersOfContracts();
        contractsByNumber();
        yearsPlacesAges();
        eventsByNumber();
        whatIsAsked();
        percents();
        firstNamedException();
        exceptionsAheadOfMinusEight();
        refusedChangesNothing();
        askedChangesNothing();
        tellsNothingElse();
        tellsNothingElseOfLosses();
        undoNothing();
        undoTwelve();
        undoEach();
        undoOnlyWhatWasDone();
        undoGoesOn();
        knocks();
        Calls.end("edges of calls");
    }

    private static Run of(String sentence) {
        return Run.of(sentence);
    }

    /** LOSSES, INSURERS and CONTRACTS of each kind; in the YEAR 0 stand three EVENTS, in the YEAR 1 one. */
    private static Run rich(String sentence) {
        return of(sentence).sums(500, 200, 90).loss(0, 10, 0, 0, 400).loss(1, 12, 0, 1, 150).loss(2, 40, 1, 2, 300).loss(3, 370, 2, 0, 90)
            .loss(4, 11, 0, 1, 70).due(2, "report", 0, 380, 450).due(3, "report", 0, 800, 420).due(0, "recover", 2, 60).set(1, 20).set(3, 30)
            .set(13, 700).due(0, "rule", 2).due(0, "way", 1).due(0, "fail", 2, true).due(0, "share", 25).due(1, "layer", 50, 60, 1, 40)
            .due(2, "layer", 110, 500, 9, 3).due(3, "stop", 20, 90);
    }

    // ---- arguments

    private static void daysOfLosses() {
        of("DAYS are 0 to 1459: loss()").bounds(ARGUMENT, 0, 0, 1459, "loss", 0, 0, 0, 5, 1459).bounds(ARGUMENT, 4, 0, 1459, "loss", 0, 0, 0, 5, 0)
            .due(0, "loss", 0, 0, 0, 5, 0).due(1, "loss", 1459, 0, 0, 5, 1459).due(0, "ofLoss", 0, 0).due(1459, "ofLoss", 1, 0);
        of("DAYS are 0 to 1459: report()").loss(0, 0, 0, 0, 5).bounds(ARGUMENT, 1, 0, 1459, "report", 0, 3, 5).due(2, "report", 0, 1459, 7);
        of("DAYS are 0 to 1459: late()").bounds(ARGUMENT, 0, 0, 1459, "late", 0, 0, 0, 5).due(5, "late", 0, 0, 0, 5).due(5, "late", 1459, 0, 0, 5);
    }

    private static void placesKindsSums() {
        of("a PLACE (0 to 2)").bounds(ARGUMENT, 1, 0, 2, "loss", 3, 0, 0, 5, 3).bounds(ARGUMENT, 1, 0, 2, "late", 3, 0, 0, 5)
            .loss(0, 3, 0, 0, 5).loss(1, 3, 2, 0, 5).due(0, "ofLoss", 0, 1).due(2, "ofLoss", 1, 1).due(5, "late", 3, 2, 0, 5);
        of("a KIND (0 to 2)").bounds(ARGUMENT, 2, 0, 2, "loss", 3, 0, 0, 5, 3).bounds(ARGUMENT, 2, 0, 2, "late", 3, 0, 0, 5)
            .loss(0, 3, 0, 0, 5).loss(1, 3, 0, 2, 5).due(0, "ofLoss", 0, 2).due(2, "ofLoss", 1, 2).due(5, "late", 3, 0, 2, 5);
        of("a sum (0 to 99999)").bounds(ARGUMENT, 3, 0, 99999, "loss", 3, 0, 0, 5, 3).bounds(ARGUMENT, 3, 0, 99999, "late", 3, 0, 0, 5)
            .loss(0, 3, 0, 0, 0).loss(1, 3, 1, 0, 99999).due(0, "ofLoss", 0, 3).due(99999, "ofLoss", 1, 3)
            .bounds(ARGUMENT, 2, 0, 99999, "report", 0, 5, 5).due(2, "report", 0, 4, 99999).due(3, "report", 0, 5, 0).due(0, "ofLoss", 0, 3)
            .due(99999, "sumAt", 0, 4);
    }

    private static void knownBelowDay() {
        of("-8, if known is below day").unchangedEach(-8, "loss", new int[][] {{5, 0, 0, 1, 4}, {5, 0, 0, 1, 0}, {1459, 2, 2, 99999, 1458}, {1, 0, 0, 0, 0}})
            .due(0, "loss", 5, 0, 0, 1, 5).due(1, "loss", 5, 0, 0, 1, 6).due(2, "loss", 0, 0, 0, 1, 0).due(3, "loss", 1458, 0, 0, 1, 1459);
    }

    private static void atMostTwelveLosses() {
        Run t = of("A LOSS (at most 12, numbered from 0 as they come)").due(0, "house", 0);
        for (int i = 0; i < 12; i++) {
            t.due(i, "loss", 1459 - i, i % 3, 0, 5, 1459).due(i + 1, "house", 0).due(1459 - i, "ofLoss", i, 0);
        }
        t.unchanged(STATE, "loss", 5, 0, 0, 5, 5).unchanged(STATE, "loss", 1459, 2, 2, 99999, 1459).due(11, "undo").due(11, "loss", 5, 0, 0, 5, 5)
            .unchanged(STATE, "loss", 5, 0, 0, 5, 5);
    }

    private static void lossesByNumber() {
        Run none = of("if there is no such LOSS: without LOSSES");
        none.unchangedEach(INDEX, "report", new int[][] {{0, 5, 5}, {-1, 5, 5}}).unchangedEach(INDEX, "unreport", new int[][] {{0}, {-1}})
            .unchangedEach(INDEX, "recover", new int[][] {{0, 5}, {-1, 5}}).unchangedEach(INDEX, "ofLoss", new int[][] {{0, 0}, {-1, 0}})
            .unchangedEach(INDEX, "sumAt", new int[][] {{0, 5}, {-1, 5}});
        Run some = of("if there is no such LOSS: with 3").loss(0, 3, 0, 0, 5).loss(1, 3, 0, 0, 5).loss(2, 3, 0, 0, 5);
        some.bounds(INDEX, 0, 0, 2, "report", 0, 5, 5).bounds(INDEX, 0, 0, 2, "unreport", 0).bounds(INDEX, 0, 0, 2, "recover", 0, 5)
            .bounds(INDEX, 0, 0, 2, "ofLoss", 0, 0).bounds(INDEX, 0, 0, 2, "sumAt", 0, 5);
        of("if there is no such LOSS: with 12").twelveLosses().bounds(INDEX, 0, 0, 11, "report", 0, 50, 5).bounds(INDEX, 0, 0, 11, "unreport", 0)
            .bounds(INDEX, 0, 0, 11, "recover", 0, 5).bounds(INDEX, 0, 0, 11, "ofLoss", 0, 0).bounds(INDEX, 0, 0, 11, "sumAt", 0, 5);
        // a LOSS that was undone is none
        of("if there is no such LOSS: undone").loss(0, 3, 0, 0, 5).loss(1, 3, 0, 0, 5).due(1, "undo").bounds(INDEX, 0, 0, 0, "ofLoss", 0, 0)
            .bounds(INDEX, 0, 0, 0, "report", 0, 5, 5).bounds(INDEX, 0, 0, 0, "sumAt", 0, 5);
    }

    private static void reportsAndRecoveries() {
        of("Returns how many it has then").loss(0, 3, 0, 0, 5).due(1, "ofLoss", 0, 5).due(2, "report", 0, 4, 6).due(3, "report", 0, 9, 7)
            .due(3, "ofLoss", 0, 5).due(2, "unreport", 0).due(2, "ofLoss", 0, 5).due(1, "unreport", 0).due(1, "ofLoss", 0, 5);
        of("recover(): sum is 0 to 99999").loss(0, 3, 0, 0, 99999).bounds(ARGUMENT, 1, 0, 99999, "recover", 0, 5).due(0, "recover", 0, 99999)
            .due(99999, "ofLoss", 0, 6).due(99999, "recover", 0, 0).due(0, "ofLoss", 0, 6);
        of("Returns BACK before, also what does not count").loss(0, 3, 0, 0, 5).due(0, "recover", 0, 40).due(40, "recover", 0, 41).due(5, "ofLoss", 0, 6);
    }

    private static void risingKnownDays() {
        of("-8, if known is not above the KNOWN day of its last one").due(0, "loss", 3, 0, 0, 5, 20).unchanged(-8, "report", 0, 20, 9)
            .unchanged(-8, "report", 0, 19, 9).unchanged(-8, "report", 0, 0, 9).due(2, "report", 0, 21, 9).unchanged(-8, "report", 0, 21, 10)
            .due(3, "report", 0, 1459, 11).unchanged(-8, "report", 0, 1459, 12);
        // the last one is the last one that is there
        of("-8, if known is not above: behind unreport()").loss(0, 3, 0, 0, 5).due(2, "report", 0, 9, 6).due(1, "unreport", 0)
            .unchanged(-8, "report", 0, 3, 6).due(2, "report", 0, 4, 6).loss(1, 1, 0, 0, 5).due(2, "report", 1, 2, 7);
    }

    private static void oneReportStays() {
        of("-9, if it has one").loss(0, 3, 0, 0, 5).unchanged(-9, "unreport", 0).due(2, "report", 0, 4, 6).due(1, "unreport", 0).unchanged(-9, "unreport", 0)
            .due(5, "ofLoss", 0, 3);
    }

    private static void daysOfTodayAndAsking() {
        of("TODAY is a day (1459 at first)").due(1459, "house", 4).bounds(ARGUMENT, 0, 0, 1459, "today", 7).due(1459, "today", 0).due(0, "house", 4)
            .due(0, "today", 1459).due(1459, "house", 4);
        of("sumAt(): day is 0 to 1459").loss(0, 0, 0, 0, 5).bounds(ARGUMENT, 1, 0, 1459, "sumAt", 0, 7).due(5, "sumAt", 0, 0).due(5, "sumAt", 0, 1459);
    }

    private static void numbersOfThePolicy() {
        int[] least = {0, 0, 0, 0, 0, 0, 0, 0, 0, 0, 1, 1, 0, 0};
        int[] greatest = {2, 99999, 99999, 99999, 99999, 99999, 99999, 99999, 99999, 1459, 99999, 99999, 30, 99999};
        of("what is not 0 to 13").bounds(INDEX, 0, 0, 13, "policy", 0, 1).bounds(INDEX, 0, 0, 13, "number", 0);
        for (int what = 0; what < 14; what++) {
            Run t = rich("POLICY (all numbers 0 to 99999, if nothing else is said): " + what).bounds(ARGUMENT, 1, least[what], greatest[what], "policy", what, 1);
            Object before = t.asked("number", what);
            t.due(before, "policy", what, greatest[what]).due(greatest[what], "number", what).due(greatest[what], "policy", what, least[what])
                .due(least[what], "number", what).due(least[what], "policy", what, least[what]);
        }
    }

    private static void policyAtFirst() {
        int[] first = {0, 0, 0, 0, 99999, 99999, 99999, 99999, 99999, 0, 1, 1, 3, 0};
        for (int what = 0; what < 14; what++) {
            of("OWN MODE (0 at first), OWN (0), ..: " + what).due(first[what], "number", what).set(what, first[what] == 2 ? 1 : 2).due(2, "number", what);
        }
    }

    private static void rulesAndWays() {
        of("rule is 0 to 2 (0 at first)").due(0, "house", 6).bounds(ARGUMENT, 0, 0, 2, "rule", 1).due(0, "rule", 2).due(2, "house", 6).due(2, "rule", 0)
            .due(0, "house", 6).due(0, "rule", 1).due(1, "rule", 1);
        of("way is 0 to 3 (0 at first)").due(0, "house", 5).bounds(ARGUMENT, 0, 0, 3, "way", 1).due(0, "way", 3).due(3, "house", 5).due(3, "way", 0)
            .due(0, "house", 5).due(0, "way", 1).due(1, "way", 2).due(2, "way", 2);
    }

    private static void insurersOneToFour() {
        of("At first there is one with the SUM 99999").due(1, "house", 1).due(0, "house", 9).due(99999, "sum", 0, 5);
        of("INSURERS: 1 to 4").bounds(ARGUMENT, 0, 1, 99999, "insurer", 7).due(2, "insurer", 1).due(3, "insurer", 99999).due(4, "insurer", 7).due(4, "house", 1)
            .unchanged(STATE, "insurer", 7).unchanged(STATE, "insurer", 1).due(2, "undo").due(3, "house", 1).due(4, "insurer", 8).due(8, "sum", 3, 8)
            .due(99999, "sum", 2, 8).due(1, "sum", 1, 8);
        of("each with a SUM (1 to 99999)").bounds(ARGUMENT, 1, 1, 99999, "sum", 0, 7).due(99999, "sum", 0, 1).due(1, "sum", 0, 99999).due(99999, "sum", 0, 9);
    }

    private static void insurersByNumber() {
        Run one = of("or no such INSURER: with 1").loss(0, 3, 0, 0, 5);
        one.bounds(INDEX, 0, 0, 0, "sum", 0, 5).bounds(INDEX, 0, 0, 0, "fail", 0, true).bounds(INDEX, 0, 0, 0, "fail", 0, false)
            .bounds(INDEX, 0, 0, 0, "paidBy", 0, 0).bounds(INDEX, 2, 0, 0, "part", 0, 0, 0);
        of("or no such INSURER: with 4").loss(0, 3, 0, 0, 5).sums(5, 6, 7, 8).bounds(INDEX, 0, 0, 3, "sum", 0, 5).bounds(INDEX, 0, 0, 3, "fail", 0, true)
            .bounds(INDEX, 0, 0, 3, "paidBy", 0, 0).bounds(INDEX, 2, 0, 3, "part", 0, 0, 0);
        of("or no such INSURER: undone").loss(0, 3, 0, 0, 5).due(2, "insurer", 7).due(1, "undo").bounds(INDEX, 0, 0, 0, "fail", 0, true);
    }

    private static void contractsNoneToSix() {
        Object[][] calls = {{"share", 5}, {"layer", 5, 5, 5, 5}, {"stop", 5, 5}};
        for (Object[] call : calls) {
            String name = (String) call[0];
            Object[] arguments = java.util.Arrays.copyOfRange(call, 1, call.length);
            Run t = of("CONTRACTS (at most 6, numbered from 0 in their order): " + name).due(0, "house", 2).unchanged(-9, "unsign");
            for (int i = 0; i < 5; i++) {
                t.due(i, i % 2 == 0 ? "share" : "stop", i % 2 == 0 ? new Object[] {10 + i} : new Object[] {10 + i, 9}).due(i + 1, "house", 2);
            }
            t.due(5, name, arguments).due(6, "house", 2).unchanged(STATE, name, arguments).due(5, "unsign").due(5, name, arguments).unchanged(STATE, name, arguments)
                .due("share 10", "contract", 0).due("stop 11+9", "contract", 1);
        }
    }

    private static void numbersOfContracts() {
        of("percent is not 1 to 99").bounds(ARGUMENT, 0, 1, 99, "share", 5).due(0, "share", 1).due(1, "share", 99).due("share 1", "contract", 0);
        of("a FROM (0 to 99999)").bounds(ARGUMENT, 0, 0, 99999, "layer", 5, 5, 5, 5).bounds(ARGUMENT, 0, 0, 99999, "stop", 5, 5)
            .due(0, "layer", 0, 5, 5, 5).due(1, "layer", 99999, 5, 5, 5).due(2, "stop", 0, 5).due(3, "stop", 99999, 5);
        of("a WIDE (1 to 99999)").bounds(ARGUMENT, 1, 1, 99999, "layer", 5, 5, 5, 5).bounds(ARGUMENT, 1, 1, 99999, "stop", 5, 5)
            .due(0, "layer", 0, 1, 5, 5).due(1, "layer", 1, 99999, 5, 5).due(2, "stop", 0, 1).due(3, "stop", 0, 99999);
        of("an AGAIN (0 to 9)").bounds(ARGUMENT, 2, 0, 9, "layer", 5, 5, 5, 5).due(0, "layer", 5, 5, 0, 5).due(1, "layer", 10, 5, 9, 5)
            .due("layer 5+5*0@5", "contract", 0).due("layer 10+5*9@5", "contract", 1);
        of("a PRICE (0 to 999)").bounds(ARGUMENT, 3, 0, 999, "layer", 5, 5, 5, 5).due(0, "layer", 5, 5, 5, 0).due(1, "layer", 10, 5, 5, 999)
            .due("layer 5+5*5@0", "contract", 0).due("layer 10+5*5@999", "contract", 1);
    }

    private static void contractsByNumber() {
        of("or no such CONTRACT: without").loss(0, 3, 0, 0, 5).unchangedEach(INDEX, "contract", new int[][] {{0}, {-1}})
            .unchangedEach(INDEX, "ofContract", new int[][] {{0, 0, 0}, {-1, 0, 0}}).unchangedEach(INDEX, "taken", new int[][] {{0, 0, 0}, {0, 0, -1}});
        of("or no such CONTRACT: with 6").loss(0, 3, 0, 0, 5).sixContracts().bounds(INDEX, 0, 0, 5, "contract", 0).bounds(INDEX, 0, 0, 5, "ofContract", 0, 0, 0)
            .bounds(INDEX, 2, 0, 5, "taken", 0, 0, 0);
        of("or no such CONTRACT: behind unsign()").loss(0, 3, 0, 0, 5).due(0, "share", 5).due(1, "stop", 5, 5).due(1, "unsign").bounds(INDEX, 0, 0, 0, "contract", 0)
            .bounds(INDEX, 0, 0, 0, "ofContract", 0, 0, 0).bounds(INDEX, 2, 0, 0, "taken", 0, 0, 0);
        // without LOSSES and behind undo()
        of("or no such CONTRACT: undone").due(0, "share", 5).due(0, "undo").unchanged(INDEX, "contract", 0).unchanged(INDEX, "ofContract", 0, 0, 0);
    }

    private static void yearsPlacesAges() {
        Run t = of("year is not 0 to 3").twelveLosses().due(0, "share", 5);
        t.bounds(INDEX, 0, 0, 3, "parting", 0, 0).bounds(INDEX, 0, 0, 3, "partings", 0, 0).bounds(INDEX, 0, 0, 3, "best", 0, 0, true)
            .bounds(INDEX, 0, 0, 3, "events", 0).bounds(INDEX, 0, 0, 3, "ofYear", 0, 0).bounds(INDEX, 1, 0, 3, "paidBy", 0, 0)
            .bounds(INDEX, 1, 0, 3, "ofContract", 0, 0, 0).bounds(INDEX, 0, 0, 3, "would", 0, 5).bounds(INDEX, 0, 0, 3, "cum", 0, 0)
            .bounds(INDEX, 0, 0, 3, "ultimate", 0);
        of("or place not 0 to 2").bounds(INDEX, 1, 0, 2, "parting", 0, 0).bounds(INDEX, 1, 0, 2, "partings", 0, 0).bounds(INDEX, 1, 0, 2, "best", 0, 0, false);
        of("an AGE").bounds(INDEX, 1, 0, 3, "cum", 0, 0).bounds(INDEX, 0, 0, 2, "growth", 0);
    }

    private static void eventsByNumber() {
        int[][] none = {{0, 0, 0}, {3, 0, 0}, {-1, 0, 0}, {4, 0, 0}, {0, -1, 0}};
        of("or there is no such EVENT in it: without").due(0, "share", 5).unchangedEach(INDEX, "event", none).unchangedEach(INDEX, "part", none)
            .unchangedEach(INDEX, "taken", none).unchangedEach(INDEX, "why", new int[][] {{0, 0}, {3, 0}, {-1, 0}, {4, 0}, {0, -1}});
        Run t = of("or there is no such EVENT in it: with 12, and 2 in the YEAR 3").set(12, 0).due(0, "share", 5);
        for (int i = 0; i < 10; i++) {
            t.loss(i, 10 + i, 0, 0, 100);
        }
        t.loss(10, 1100, 0, 0, 5).loss(11, 1200, 0, 0, 5).due(10, "events", 0).due(0, "events", 1).due(2, "events", 3);
        for (String name : new String[] {"event", "part", "taken"}) {
            t.bounds(INDEX, 1, 0, 9, name, 0, 0, 0).bounds(INDEX, 1, 0, 1, name, 3, 0, 0).unchanged(INDEX, name, 1, 0, 0).unchanged(INDEX, name, 4, 0, 0)
                .unchanged(INDEX, name, -1, 0, 0).unchanged(INDEX, name, MAX, 0, 0);
        }
        t.bounds(INDEX, 1, 0, 9, "why", 0, 0).bounds(INDEX, 1, 0, 1, "why", 3, 0).unchanged(INDEX, "why", 1, 0).unchanged(INDEX, "why", 4, 0)
            .unchanged(INDEX, "why", -1, 0);
        // what late() worked out is no EVENT of any YEAR
        Run late = of("or there is no such EVENT in it: behind late()").due(0, "share", 5).due(86, "late", 9, 0, 0, 90);
        late.unchangedEach(INDEX, "event", none).unchangedEach(INDEX, "part", none).unchangedEach(INDEX, "taken", none)
            .unchangedEach(INDEX, "why", new int[][] {{0, 0}, {3, 0}, {-1, 0}, {4, 0}, {0, -1}});
    }

    private static void whatIsAsked() {
        Run t = rich("what is not 0 to ..");
        t.bounds(ARGUMENT, 1, 0, 8, "ofLoss", 0, 0).bounds(ARGUMENT, 2, 0, 11, "event", 0, 0, 0).bounds(ARGUMENT, 1, 0, 10, "ofYear", 0, 0)
            .bounds(ARGUMENT, 2, 0, 2, "ofContract", 0, 0, 0).bounds(ARGUMENT, 0, 0, 10, "house", 0).bounds(INDEX, 0, 0, 13, "number", 0);
    }

    private static void percents() {
        of("would(): percent is not 1 to 99").loss(0, 3, 0, 0, 100).bounds(ARGUMENT, 1, 1, 99, "would", 0, 5).due(99, "would", 0, 1).due(1, "would", 0, 99);
    }

    // ---- exceptions and refusals

    private static void firstNamedException() {
        Run full = of("the one that is named first is thrown: full").twelveLosses().sixContracts().sums(5, 6, 7, 8);
        full.unchangedEach(ARGUMENT, "loss", new int[][] {{-1, 0, 0, 0, 5}, {1460, 0, 0, 0, 1459}, {5, 3, 0, 0, 5}, {5, 0, -1, 0, 5}, {5, 0, 0, 100000, 5}, {5, 0, 0, 0, 1460}})
            .unchangedEach(ARGUMENT, "insurer", new int[][] {{0}, {100000}}).unchangedEach(ARGUMENT, "share", new int[][] {{0}, {100}})
            .unchangedEach(ARGUMENT, "layer", new int[][] {{-1, 5, 5, 5}, {5, 0, 5, 5}, {5, 5, 10, 5}, {5, 5, 5, 1000}})
            .unchangedEach(ARGUMENT, "stop", new int[][] {{-1, 5}, {100000, 5}, {5, 0}, {5, 100000}});
        Run one = of("the one that is named first is thrown: one of each").loss(0, 3, 0, 0, 5).due(0, "share", 5);
        one.unchangedEach(INDEX, "report", new int[][] {{1, -1, 5}, {1, 1460, 5}, {-1, 5, -1}, {1, 5, 100000}}).unchangedEach(INDEX, "recover", new int[][] {{1, -1}, {-1, 100000}})
            .unchangedEach(INDEX, "policy", new int[][] {{14, -1}, {-1, -1}, {14, 100000}}).unchangedEach(INDEX, "sum", new int[][] {{1, 0}, {-1, 100000}})
            .unchangedEach(INDEX, "ofLoss", new int[][] {{1, 9}, {-1, -1}}).unchangedEach(INDEX, "sumAt", new int[][] {{1, -1}, {-1, 1460}})
            .unchangedEach(INDEX, "event", new int[][] {{0, 1, 12}, {0, -1, -1}, {4, 0, 12}, {1, 0, 12}, {-1, 0, -1}})
            .unchangedEach(INDEX, "ofYear", new int[][] {{4, 11}, {-1, -1}}).unchangedEach(INDEX, "ofContract", new int[][] {{1, 0, 3}, {0, 4, 3}, {-1, 0, -1}, {0, -1, 3}})
            .unchangedEach(INDEX, "would", new int[][] {{4, 0}, {-1, 100}});
    }

    private static void exceptionsAheadOfMinusEight() {
        of("exceptions go ahead of -8: loss()").unchanged(-8, "loss", 5, 0, 0, 1, 4)
            .unchangedEach(ARGUMENT, "loss", new int[][] {{5, 3, 0, 1, 4}, {5, 0, 3, 1, 4}, {5, 0, 0, 100000, 4}, {5, 0, 0, -1, 4}, {5, 0, 0, 1, -1}, {1460, 0, 0, 1, 4}})
            .twelveLosses().unchanged(STATE, "loss", 5, 0, 0, 1, 4);
        of("exceptions go ahead of -8: report()").loss(0, 9, 0, 0, 5).unchanged(-8, "report", 0, 4, 5)
            .unchangedEach(ARGUMENT, "report", new int[][] {{0, 4, -1}, {0, 4, 100000}, {0, -1, 5}}).unchanged(INDEX, "report", 1, 4, 5);
        of("exceptions go ahead of -9: unreport()").loss(0, 9, 0, 0, 5).unchanged(-9, "unreport", 0).unchanged(INDEX, "unreport", 1).unchanged(INDEX, "unreport", -1);
        of("exceptions go ahead of -8: layer()").due(0, "layer", 0, 100, 0, 0).unchanged(-8, "layer", 5, 5, 5, 5)
            .unchangedEach(ARGUMENT, "layer", new int[][] {{5, 5, 10, 5}, {5, 5, -1, 5}, {5, 5, 5, 1000}, {5, 5, 5, -1}, {5, 0, 5, 5}, {-1, 5, 5, 5}})
            .due(1, "share", 5).due(2, "share", 5).due(3, "share", 5).due(4, "share", 5).due(5, "layer", 0, 100, 0, 0).unchanged(STATE, "layer", 5, 5, 5, 5);
    }

    private static void refusedChangesNothing() {
        Run t = rich("A method that throws an exception changes nothing");
        t.unchanged(ARGUMENT, "loss", 5, 0, 0, 100000, 5).unchanged(ARGUMENT, "report", 0, 900, -1).unchanged(INDEX, "report", 5, 900, 1)
            .unchanged(INDEX, "unreport", 5).unchanged(INDEX, "recover", 5, 1).unchanged(ARGUMENT, "recover", 2, -1).unchanged(ARGUMENT, "today", 1460)
            .unchanged(INDEX, "policy", 14, 1).unchanged(ARGUMENT, "policy", 12, 31).unchanged(ARGUMENT, "rule", 3).unchanged(ARGUMENT, "insurer", 0)
            .unchanged(INDEX, "sum", 3, 1).unchanged(ARGUMENT, "sum", 2, 0).unchanged(ARGUMENT, "way", 4).unchanged(INDEX, "fail", 3, true)
            .unchanged(INDEX, "fail", 3, false).unchanged(ARGUMENT, "share", 100).unchanged(ARGUMENT, "layer", 5, 0, 5, 5).unchanged(ARGUMENT, "stop", 5, 0)
            .unchanged(INDEX, "ofLoss", 5, 0).unchanged(INDEX, "why", 0, 9).unchanged(ARGUMENT, "late", 1460, 0, 0, 5).unchanged(ARGUMENT, "would", 0, 0);
        rich("they tell -8 or -9, and change nothing").unchanged(-8, "loss", 6, 0, 0, 9, 5).unchanged(-8, "report", 0, 800, 9).unchanged(-9, "unreport", 1)
            .due(4, "layer", 10, 20, 1, 1).unchanged(-8, "layer", 29, 5, 1, 1);
        of("they tell -8 or -9, and change nothing: unsign()").loss(0, 3, 0, 0, 5).unchanged(-9, "unsign").due(0, "share", 5).due(0, "unsign").unchanged(-9, "unsign");
    }

    private static void askedChangesNothing() {
        Run t = rich("What one asks for changes nothing");
        for (int what = 0; what <= 8; what++) {
            t.unchangedBy("ofLoss", what % 5, what);
        }
        for (int what = 0; what <= 11; what++) {
            t.unchangedBy("event", 0, what % 3, what).unchangedBy("ofYear", what % 4, what % 11).unchangedBy("house", what % 11).unchangedBy("number", what);
        }
        t.unchangedBy("sumAt", 0, 400).unchangedBy("parting", 0, 0).unchangedBy("partings", 0, 1).unchangedBy("best", 0, 0, true).unchangedBy("best", 0, 0, false)
            .unchangedBy("events", 0).unchangedBy("part", 0, 1, 2).unchangedBy("taken", 0, 1, 3).unchangedBy("why", 0, 2).unchangedBy("worst")
            .unchangedBy("paidBy", 1, 0).unchangedBy("ofContract", 1, 0, 2).unchangedBy("contract", 2).unchangedBy("would", 0, 50)
            .unchangedBy("late", 9, 0, 1, 5000).unchangedBy("late", 11, 0, 1, 0).unchangedBy("late", 1459, 2, 2, 99999).unchangedBy("cum", 0, 1)
            .unchangedBy("growth", 1).unchangedBy("ultimate", 1).unchangedBy("money", -5).unchangedBy("isSound").unchangedBy("digest");
        // with 12 LOSSES and 6 CONTRACTS late() and would() have to find room elsewhere
        of("What one asks for changes nothing: full").twelveLosses().sixContracts().unchangedBy("late", 9, 0, 1, 5000).unchangedBy("late", 14, 0, 1, 5000)
            .unchangedBy("would", 0, 50);
    }

    private static void tellsNothingElse() {
        Run t = rich("Tells ..: nothing else");
        for (int what = 0; what < 14; what++) {
            t.changesOnly("policy " + what, t.asked("number", what), "policy", what, what == 12 ? 5 : 2);
        }
        t.changesOnly("today", 1459, "today", 700).changesOnly("rule", 2, "rule", 1).changesOnly("way", 1, "way", 3)
            .changesOnly("failed 3, insurers, sum 3", 4, "insurer", 70).changesOnly("sum 1", 200, "sum", 1, 40).changesOnly("sum 3", 70, "sum", 3, 71)
            .changesOnly("failed, failed 1", 0, "fail", 1, true).changesOnly("failed, failed 2", 1, "fail", 2, false).changesOnly("failed, failed 0", 0, "fail", 0, true)
            .changesOnly("", 1, "fail", 0, true).changesOnly("contract 4, contracts", 4, "share", 7).changesOnly("contract 4, contracts", 4, "unsign")
            .changesOnly("contract 4, contracts", 4, "stop", 8, 9).changesOnly("contract 5, contracts", 5, "layer", 1, 2, 3, 4).changesOnly("contract 5, contracts", 5, "unsign")
            .changesOnly("contract 4, contracts", 4, "unsign").changesOnly("contract 3, contracts", 3, "unsign").changesOnly("knocks", 1, "knock")
            .changesOnly("contract 3, contracts", 11, "undo");
    }

    private static void tellsNothingElseOfLosses() {
        rich("A LOSS comes, a REPORT comes, BACK is told: nothing else")
            .changesOnly("loss 5 back, loss 5 day, loss 5 kind, loss 5 place, loss 5 reports, loss 5 year, losses", 5, "loss", 800, 1, 2, 33, 900)
            .changesOnly("loss 2 reports", 2, "report", 2, 900, 7).changesOnly("loss 5 reports", 2, "report", 5, 901, 8).changesOnly("loss 2 back", 60, "recover", 2, 61)
            .changesOnly("loss 5 back", 0, "recover", 5, 99999).changesOnly("loss 5 reports", 3, "report", 5, 902, 9).changesOnly("loss 2 reports", 1, "unreport", 2)
            .changesOnly("loss 5 reports", 2, "unreport", 5).changesOnly("", 61, "recover", 2, 61).due(61, "ofYear", 0, 5);
    }

    // ---- undo

    private static void undoNothing() {
        of("if none can be undone").due(0, "house", 3).unchanged(STATE, "undo").due(-9, "unsign").due(-8, "loss", 5, 0, 0, 1, 4).due(ARGUMENT, "way", 4).due(1, "knock")
            .unchanged(STATE, "undo").due(0, "way", 2).due(1, "house", 3).due(0, "undo").due(0, "house", 3).unchanged(STATE, "undo");
    }

    private static void undoTwelve() {
        for (int calls = 1; calls <= 14; calls++) {
            Run t = of("The last 12 can be undone: of " + calls);
            for (int i = 0; i < calls; i++) {
                t.due(i == 0 ? 1459 : 10 + i - 1, "today", 10 + i).due(Math.min(12, i + 1), "house", 3);
            }
            for (int i = calls - 1; i >= 0 && i >= calls - 12; i--) {
                t.due(i - Math.max(0, calls - 12), "undo").due(i == 0 ? 1459 : 10 + i - 1, "house", 4);
            }
            t.unchanged(STATE, "undo");
        }
    }

    private static void undoEach() {
        Run t = of("all is as ahead of it").undone(0, "loss", 400, 1, 2, 700, 401).undone(2, "report", 0, 500, 900).undone(1, "unreport", 0).undone(2, "report", 0, 499, 800)
            .undone(0, "recover", 0, 50).undone(50, "recover", 0, 60).undone(1459, "today", 600);
        for (int what = 0; what < 14; what++) {
            t.undone(t.asked("number", what), "policy", what, what == 12 ? 5 : 2);
        }
        t.undone(0, "rule", 2).undone(2, "insurer", 300).undone(300, "sum", 1, 400).undone(99999, "sum", 0, 70).undone(0, "way", 3).undone(0, "fail", 0, true)
            .undone(1, "fail", 0, false).undone(0, "fail", 1, true).undone(0, "share", 30).undone(1, "layer", 10, 90, 1, 40).undone(2, "stop", 60, 70).undone(2, "unsign")
            .undone(2, "stop", 61, 71).undone(2, "unsign").undone(1, "unsign").undone(0, "unsign").undoneAgain(12);
        // a call that tells what was told already is one that was done, too
        of("all is as ahead of it: told again").due(0, "way", 2).due(2, "way", 2).due(2, "house", 3).due(1, "undo").due(2, "house", 5).due(0, "undo").due(0, "house", 5);
        // what was undone does not come back with what is told in its place
        of("all is as ahead of it: told anew").loss(0, 3, 0, 0, 5).due(2, "report", 0, 4, 6).due(0, "recover", 0, 3).due(0, "fail", 0, true).due(3, "undo").due(2, "undo")
            .due(1, "undo").due(0, "undo").loss(0, 8, 0, 0, 9).due(1, "ofLoss", 0, 5).due(0, "ofLoss", 0, 6).due(0, "house", 9).due(9, "ofLoss", 0, 3);
        // an INSURER that comes again has not FAILED
        of("all is as ahead of it: INSURERS").due(2, "insurer", 5).due(0, "fail", 1, true).due(1, "undo").due(0, "undo").due(2, "insurer", 6).due(0, "house", 9)
            .due(6, "sum", 1, 6).due(0, "fail", 1, false);
    }

    private static void undoOnlyWhatWasDone() {
        of("neither refused nor -8 or -9").due(0, "way", 1).loss(0, 9, 0, 0, 5).due(-8, "loss", 5, 0, 0, 1, 4).due(-8, "report", 0, 9, 1).due(-9, "unreport", 0)
            .due(-9, "unsign").due(ARGUMENT, "way", 4).due(INDEX, "recover", 1, 0).due(5, "late", 9, 0, 0, 5).due(1, "knock").due(2, "house", 3).due(1, "undo")
            .due(0, "house", 0).due(1, "house", 5).due(0, "undo").due(0, "house", 5);
    }

    private static void undoGoesOn() {
        // the ring of what can be undone goes round while it is full, half empty and empty
        Run t = of("Returns how many can be undone then");
        for (int i = 0; i < 20; i++) {
            t.due(i == 0 ? 1459 : 100 + i - 1, "today", 100 + i);
        }
        t.due(11, "undo").due(10, "undo").due(9, "undo").due(116, "house", 4).due(116, "today", 500).due(500, "today", 501).due(11, "house", 3).due(501, "today", 502)
            .due(502, "today", 503).due(12, "house", 3);
        int[] days = {502, 501, 500, 116, 115, 114, 113, 112, 111, 110, 109, 108};
        for (int i = 0; i < days.length; i++) {
            t.due(11 - i, "undo").due(days[i], "house", 4);
        }
        t.unchanged(STATE, "undo").due(108, "today", 9).due(1, "house", 3).due(0, "undo").due(108, "house", 4).unchanged(STATE, "undo");
    }

    private static void knocks() {
        of("Returns how often one knocked, with this").due(0, "house", 10).due(1, "knock").due(1, "house", 10).due(2, "knock").due(2, "house", 10).due(0, "way", 2)
            .due(0, "undo").due(2, "house", 10).due(3, "knock").due(0, "house", 3);
    }
}
