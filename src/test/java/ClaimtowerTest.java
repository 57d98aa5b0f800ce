/** A test for each promise of the document: ordinary calls, the edges that it names, and wrong inputs. */
public final class ClaimtowerTest {
    private static final int MIN = Run.MIN;
    private static final int MAX = Run.MAX;
    private static final String INDEX = Run.INDEX;
    private static final String ARGUMENT = Run.ARGUMENT;
    private static final String STATE = Run.STATE;

    private ClaimtowerTest() {
    }

    public static void main(String[] args) {
        newObject();
        losses();
        reports();
        recoveriesAndToday();
        policy();
        insurers();
        contracts();
        unsign();
        undo();
        ofLoss();
        partings();
        partingsBeyondOthers();
        events();
        recovered();
        parts();
        taken();
        why();
        ofYear();
        steps();
        ofContract();
        wouldAndLate();
        triangle();
        house();
        soundAndDigest();
        Calls.end("promises");
    }

    private static Run of(String promise) {
        return Run.of("promise " + promise);
    }

    private static void newObject() {
        of("1").due(0, "house", 0).due(1, "house", 1).due(0, "house", 2).due(0, "house", 3).due(1459, "house", 4)
            .due(0, "house", 5).due(0, "house", 6).due(0, "house", 7).due(0, "house", 8).due(0, "house", 9).due(0, "house", 10)
            .due(99999, "sum", 0, 5);
        int[] policy = {0, 0, 0, 0, 99999, 99999, 99999, 99999, 99999, 0, 1, 1, 3, 0};
        for (int what = 0; what < policy.length; what++) {
            of("1").due(policy[what], "number", what);
        }
    }

    private static void losses() {
        of("2").due(0, "loss", 0, 0, 0, 0, 0).due(1, "loss", 1459, 2, 2, 99999, 1459).due(2, "loss", 7, 1, 1, 5, 9).due(3, "house", 0);
        Run t = of("2").loss(0, 10, 0, 0, 100);
        int[][] wrong = {{-1, 0, 0, 0, 0}, {1460, 0, 0, 0, 1459}, {0, -1, 0, 0, 0}, {0, 3, 0, 0, 0}, {0, 0, -1, 0, 0}, {0, 0, 3, 0, 0},
            {0, 0, 0, -1, 0}, {0, 0, 0, 100000, 0}, {0, 0, 0, 0, -1}, {0, 0, 0, 0, 1460}, {5, 0, 0, 100000, 4}, {MIN, MAX, MIN, MAX, MIN}};
        for (int[] w : wrong) {
            t.unchanged(ARGUMENT, "loss", w[0], w[1], w[2], w[3], w[4]);
        }
        t.unchanged(-8, "loss", 5, 0, 0, 1, 4);
        of("2").twelveLosses().unchanged(STATE, "loss", 5, 0, 0, 1, 5).unchanged(STATE, "loss", 5, 0, 0, 1, 4)
            .unchanged(ARGUMENT, "loss", 5, 0, 3, 1, 5).due(12, "house", 0);
    }

    private static void reports() {
        of("3").loss(0, 10, 0, 0, 100).due(2, "report", 0, 11, 300).due(3, "report", 0, 1459, 0)
            .due(0, "ofLoss", 0, 3).due(300, "sumAt", 0, 1458)
            .unchanged(-8, "report", 0, 1459, 1).unchanged(-8, "report", 0, 0, 1)
            .unchanged(INDEX, "report", 1, 1460, 1).unchanged(INDEX, "report", -1, 20, 1)
            .unchanged(ARGUMENT, "report", 0, 1460, 1).unchanged(ARGUMENT, "report", 0, -1, 1)
            .unchanged(ARGUMENT, "report", 0, 5, -1).unchanged(ARGUMENT, "report", 0, 5, 100000);
        of("4").loss(0, 10, 0, 0, 100).unchanged(-9, "unreport", 0).unchanged(INDEX, "unreport", 1).unchanged(INDEX, "unreport", -1)
            .due(2, "report", 0, 20, 300).due(3, "report", 0, 30, 400).due(2, "unreport", 0).due(300, "ofLoss", 0, 3)
            .due(3, "report", 0, 21, 7).due(2, "unreport", 0).due(1, "unreport", 0).due(-9, "unreport", 0).due(100, "ofLoss", 0, 3);
    }

    private static void recoveriesAndToday() {
        of("5").loss(0, 10, 0, 0, 100).due(0, "recover", 0, 99999).due(100, "ofLoss", 0, 6).due(99999, "recover", 0, 30)
            .due(30, "ofLoss", 0, 6).due(30, "recover", 0, 0)
            .unchanged(INDEX, "recover", 1, -1).unchanged(ARGUMENT, "recover", 0, -1).unchanged(ARGUMENT, "recover", 0, 100000);
        of("6").due(1459, "today", 0).due(0, "today", 1459).due(1459, "today", 77).due(77, "house", 4)
            .unchanged(ARGUMENT, "today", -1).unchanged(ARGUMENT, "today", 1460);
    }

    private static void policy() {
        int[] least = {0, 0, 0, 0, 0, 0, 0, 0, 0, 0, 1, 1, 0, 0};
        int[] greatest = {2, 99999, 99999, 99999, 99999, 99999, 99999, 99999, 99999, 1459, 99999, 99999, 30, 99999};
        for (int what = 0; what < 14; what++) {
            Run t = of("7").unchanged(ARGUMENT, "policy", what, least[what] - 1).unchanged(ARGUMENT, "policy", what, greatest[what] + 1);
            int before = (Integer) t.asked("number", what);
            t.due(before, "policy", what, least[what]).due(least[what], "policy", what, greatest[what]).due(greatest[what], "number", what);
            for (int other = 0; other < 14; other++) {
                if (other != what) {
                    t.due(new Claimtower().number(other), "number", other);
                }
            }
        }
        of("7").unchanged(INDEX, "policy", 14, -1).unchanged(INDEX, "policy", -1, -1);
        of("8").due(0, "rule", 2).due(2, "rule", 1).due(1, "house", 6).unchanged(ARGUMENT, "rule", 3).unchanged(ARGUMENT, "rule", -1);
    }

    private static void insurers() {
        of("9").due(2, "insurer", 1).due(3, "insurer", 99999).unchanged(ARGUMENT, "insurer", 0).unchanged(ARGUMENT, "insurer", 100000)
            .due(4, "insurer", 7).unchanged(STATE, "insurer", 7).unchanged(ARGUMENT, "insurer", 0).due(7, "sum", 3, 8);
        of("10").due(2, "insurer", 40).due(40, "sum", 1, 50).due(50, "sum", 1, 1).due(99999, "sum", 0, 99999)
            .unchanged(INDEX, "sum", 2, 0).unchanged(INDEX, "sum", -1, 5).unchanged(ARGUMENT, "sum", 1, 0).unchanged(ARGUMENT, "sum", 1, 100000);
        of("11").due(0, "way", 3).due(3, "way", 1).due(1, "house", 5).unchanged(ARGUMENT, "way", 4).unchanged(ARGUMENT, "way", -1);
        of("12").due(2, "insurer", 40).due(0, "fail", 1, true).due(1, "fail", 1, true).due(2, "house", 9).due(0, "fail", 0, true)
            .due(3, "house", 9).due(1, "fail", 1, false).due(1, "house", 9).due(0, "fail", 1, false)
            .unchanged(INDEX, "fail", 2, true).unchanged(INDEX, "fail", -1, false);
    }

    private static void contracts() {
        of("13").unchanged(ARGUMENT, "share", 0).unchanged(ARGUMENT, "share", 100).due(0, "share", 1).due(1, "share", 99)
            .due("share 99", "contract", 1);
        of("13").sixContracts().unchanged(STATE, "share", 5).unchanged(ARGUMENT, "share", 0);
        Run t = of("14");
        int[][] wrong = {{-1, 1, 0, 0}, {100000, 1, 0, 0}, {0, 0, 0, 0}, {0, 100000, 0, 0}, {0, 1, -1, 0}, {0, 1, 10, 0}, {0, 1, 0, -1}, {0, 1, 0, 1000}};
        for (int[] w : wrong) {
            t.unchanged(ARGUMENT, "layer", w[0], w[1], w[2], w[3]);
        }
        t.due(0, "layer", 100, 50, 0, 0).unchanged(-8, "layer", 149, 1, 0, 0).unchanged(-8, "layer", 51, 50, 0, 0).unchanged(-8, "layer", 0, 99999, 0, 0)
            .unchanged(-8, "layer", 110, 5, 0, 0).due(1, "layer", 150, 10, 9, 999).due(2, "layer", 50, 50, 1, 1)
            .unchanged(-8, "layer", 120, 1, 0, 0).due(3, "share", 10).due(4, "layer", 100, 50, 0, 0).due("layer 150+10*9@999", "contract", 1);
        t.due(5, "layer", 0, 100, 0, 0).unchanged(STATE, "layer", 100, 50, 0, 0).unchanged(ARGUMENT, "layer", 100, 0, 0, 0);
        of("15").unchanged(ARGUMENT, "stop", -1, 1).unchanged(ARGUMENT, "stop", 100000, 1).unchanged(ARGUMENT, "stop", 0, 0)
            .unchanged(ARGUMENT, "stop", 0, 100000).due(0, "stop", 0, 1).due(1, "stop", 99999, 99999).due("stop 99999+99999", "contract", 1);
        of("15").sixContracts().unchanged(STATE, "stop", 0, 1).unchanged(ARGUMENT, "stop", 0, 0);
    }

    private static void unsign() {
        of("16").unchanged(-9, "unsign").sixContracts().due(5, "unsign").due(4, "unsign").due(4, "house", 2).due(4, "stop", 5, 6)
            .due("stop 5+6", "contract", 4).unchanged(INDEX, "contract", 5);
        // what unsign() took off comes back, also if another one stood in its place in between
        of("16").due(0, "share", 10).due(1, "stop", 1, 2).due(1, "unsign").due(1, "share", 77).due(3, "undo").due(2, "undo").due("stop 1+2", "contract", 1);
    }

    private static void undo() {
        of("17").unchanged(STATE, "undo").due(-9, "unsign").unchanged(STATE, "undo").due(1, "knock").unchanged(STATE, "undo");
        of("17").undone(0, "loss", 400, 1, 2, 700, 401).undone(2, "report", 0, 500, 900).undone(1, "unreport", 0).undone(0, "recover", 0, 50)
            .undone(1459, "today", 600).undone(0, "policy", 1, 20).undone(0, "rule", 2).undone(2, "insurer", 300).undone(300, "sum", 1, 400)
            .undone(0, "way", 3).undone(0, "fail", 0, true).undone(0, "share", 30).undone(1, "layer", 10, 90, 1, 40).undone(2, "stop", 60, 70)
            .undone(2, "unsign").due(-8, "loss", 5, 0, 0, 1, 4).due(ARGUMENT, "way", 9).due(12, "house", 3).undoneAgain(0);
    }

    private static void ofLoss() {
        Run t = of("18").due(0, "loss", 366, 2, 1, 100, 370).due(2, "report", 0, 380, 90).due(0, "recover", 0, 95)
            .due(1, "policy", 11, 4).due(1, "policy", 10, 3);
        int[] facts = {366, 2, 1, 90, 67, 2, 90, 1, 0};
        for (int what = 0; what < facts.length; what++) {
            t.due(facts[what], "ofLoss", 0, what);
        }
        t.due(3, "policy", 10, 4).due(90, "ofLoss", 0, 4).due(4, "policy", 10, 5).due(90, "ofLoss", 0, 4)
            .due(0, "policy", 9, 366).due(90, "ofLoss", 0, 4).due(366, "policy", 9, 367).due(0, "ofLoss", 0, 4).due(-1, "ofLoss", 0, 8)
            .due(90, "ofLoss", 0, 3).due(1459, "today", 369).due(0, "ofLoss", 0, 3).due(0, "ofLoss", 0, 6)
            .due(INDEX, "ofLoss", 1, 9).due(INDEX, "ofLoss", -1, 0).due(ARGUMENT, "ofLoss", 0, 9).due(ARGUMENT, "ofLoss", 0, -1);
        // 99999 * 99998 is above the greatest int
        of("18").loss(0, 0, 0, 0, 99999).due(1, "policy", 11, 99999).due(1, "policy", 10, 99998).due(99998, "ofLoss", 0, 4);
        of("18").loss(0, 0, 0, 0, 1).due(1, "policy", 11, 2).due(0, "ofLoss", 0, 4).due(-1, "ofLoss", 0, 8).due(0, "house", 7);
        of("19").due(0, "loss", 10, 0, 0, 5, 12).due(2, "report", 0, 20, 9).due(0, "sumAt", 0, 11).due(5, "sumAt", 0, 12).due(5, "sumAt", 0, 19)
            .due(9, "sumAt", 0, 20).due(1459, "today", 0).due(9, "sumAt", 0, 1459)
            .due(INDEX, "sumAt", 1, -1).due(ARGUMENT, "sumAt", 0, -1).due(ARGUMENT, "sumAt", 0, 1460);
    }

    private static void partings() {
        Run t = of("20").loss(0, 12, 0, 0, 50).loss(1, 10, 0, 0, 100).loss(2, 12, 0, 0, 10).loss(3, 13, 0, 1, 80)
            .loss(4, 14, 0, 1, 5).loss(5, 12, 1, 0, 5).loss(6, 375, 0, 0, 5).due("1 0 2 3|4", "parting", 0, 0);
        t.due("5", "parting", 0, 1).due("", "parting", 0, 2).due("6", "parting", 1, 0);
        // with OWN more than all, each PARTING pays 0: the fewest EVENTS, and the first one as long as can be
        t.due(0, "policy", 1, 99999).due("1 0 2 3|4", "parting", 0, 0).due(3, "policy", 12, 1).due("1|0 2 3|4", "parting", 0, 0)
            .due(1, "policy", 12, 0).due("1|0 2|3|4", "parting", 0, 0);
        t.due(INDEX, "parting", 4, 0).due(INDEX, "parting", -1, 0).due(INDEX, "parting", 0, 3).due(INDEX, "parting", 0, -1);
        of("21").due(1, "partings", 0, 0).loss(0, 10, 0, 0, 1).due(1, "partings", 0, 0).loss(1, 13, 0, 0, 1).due(2, "partings", 0, 0)
            .loss(2, 14, 0, 0, 1).due(3, "partings", 0, 0).due(3, "policy", 12, 4).due(4, "partings", 0, 0).due(1, "partings", 3, 2)
            .due(INDEX, "partings", 4, 0).due(INDEX, "partings", -1, 0).due(INDEX, "partings", 0, 3).due(INDEX, "partings", 0, -1);
        of("21").twelveLosses().due(3, "policy", 12, 30).due(2048, "partings", 0, 0);
        of("22").loss(0, 10, 0, 0, 100).loss(1, 12, 0, 0, 50).due(150, "best", 0, 0, false).due(150, "best", 0, 0, true)
            .due(0, "policy", 1, 30).due(120, "best", 0, 0, false).due(90, "best", 0, 0, true).due(99999, "policy", 4, 80)
            .due(90, "best", 0, 0, false).due(80, "best", 0, 0, true).due("0|1", "parting", 0, 0).due(0, "best", 0, 1, true)
            .due(INDEX, "best", 4, 0, true).due(INDEX, "best", -1, 0, true).due(INDEX, "best", 0, 3, true).due(INDEX, "best", 0, -1, true);
    }

    private static void partingsBeyondOthers() {
        // OWN in hundredths, rounded up: 25 of 101 takes 26, of 99 takes 25, and above 100 all
        of("22").loss(0, 10, 0, 0, 101).due(0, "policy", 0, 1).due(0, "policy", 1, 25).due(75, "best", 0, 0, false)
            .due(2, "report", 0, 11, 99).due(74, "best", 0, 0, false).due(3, "report", 0, 12, 100).due(75, "best", 0, 0, false)
            .due(25, "policy", 1, 101).due(0, "best", 0, 0, false).due(101, "policy", 1, 0).due(100, "best", 0, 0, false);
        of("22").loss(0, 10, 0, 0, 99999).due(0, "policy", 0, 1).due(0, "policy", 1, 99999).due(0, "best", 0, 0, false);
        // LINE itself still has the OWN PART
        of("22").loss(0, 10, 0, 0, 60).due(0, "policy", 0, 2).due(0, "policy", 1, 25).due(0, "policy", 2, 60).due(35, "best", 0, 0, false)
            .due(60, "policy", 2, 59).due(60, "best", 0, 0, false).due(59, "policy", 2, 60).due(25, "policy", 1, 70).due(0, "best", 0, 0, false);
        // of PARTINGS that pay the same, with as few EVENTS: 2 + 1 goes ahead of 1 + 2
        of("20").loss(0, 10, 0, 0, 10).loss(1, 12, 0, 0, 10).loss(2, 14, 0, 0, 10).due("0 1|2", "parting", 0, 0);
        // more EVENTS only if they pay more
        of("20").loss(0, 10, 0, 0, 60).loss(1, 10, 0, 0, 60).due(99999, "policy", 4, 100).due("0|1", "parting", 0, 0)
            .due(100, "policy", 4, 120).due("0 1", "parting", 0, 0);
        // a YEAR ends an EVENT
        of("20").loss(0, 364, 0, 0, 60).loss(1, 365, 0, 0, 60).due("0", "parting", 0, 0).due("1", "parting", 1, 0);
    }

    private static void events() {
        Run t = of("24").loss(0, 20, 2, 1, 300).loss(1, 10, 1, 0, 200).loss(2, 11, 0, 1, 100).loss(3, 12, 1, 1, 40)
            .due(0, "recover", 3, 90).due(0, "policy", 1, 10).due(0, "policy", 3, 250).due(99999, "policy", 6, 350).due(99999, "policy", 8, 200);
        of("23").due(0, "events", 0).due(INDEX, "events", 4).due(INDEX, "events", -1);
        t.due(3, "events", 0).due(0, "events", 1).due(3, "house", 8);
        int[][] facts = {{1, 2, 240, 230, 230, 230, 0, 240, 40, 0, 0, 1}, {2, 1, 100, 90, 90, 20, 70, 100, 0, 70, 70, 0},
            {0, 1, 300, 290, 260, 0, 130, 300, 0, 130, 130, 2}};
        for (int nth = 0; nth < 3; nth++) {
            for (int what = 0; what < 12; what++) {
                t.due(facts[nth][what], "event", 0, nth, what);
            }
        }
        t.due(2, "ofLoss", 0, 8).due(0, "ofLoss", 1, 8).due(1, "ofLoss", 2, 8).due(0, "ofLoss", 3, 8);
        t.due(INDEX, "event", 4, 0, 0).due(INDEX, "event", -1, 0, 0).due(INDEX, "event", 0, 3, 12).due(INDEX, "event", 0, -1, 0)
            .due(ARGUMENT, "event", 0, 2, 12).due(ARGUMENT, "event", 0, 0, -1);
        // with the same DAY the numbers tell, and the places do not
        of("24").loss(0, 5, 2, 0, 10).loss(1, 5, 0, 0, 10).due(0, "event", 0, 0, 0).due(2, "event", 0, 0, 11).due(1, "event", 0, 1, 0);
    }

    private static void recovered() {
        // WHOLE 300, OWED 200: the insured bears 100
        Run t = of("24").loss(0, 10, 0, 0, 100).loss(1, 10, 0, 0, 200).due(0, "policy", 1, 100).due(0, "recover", 0, 100)
            .due(200, "event", 0, 0, 9).due(0, "recover", 1, 50).due(150, "event", 0, 0, 8).due(150, "event", 0, 0, 9);
        t.due(0, "rule", 1).due(50, "event", 0, 0, 9).due(1, "rule", 2).due(100, "event", 0, 0, 9).due(50, "recover", 1, 49)
            .due(101, "event", 0, 0, 9).due(2, "rule", 1).due(51, "event", 0, 0, 9).due(49, "recover", 1, 200).due(0, "event", 0, 0, 9)
            .due(1, "rule", 0).due(0, "event", 0, 0, 9).due(0, "ofYear", 0, 1);
        // SPLIT of 1 by 1 and 1: the one ahead, which is not OWED, gets it
        of("24").loss(0, 10, 0, 0, 2).due(0, "policy", 1, 1).due(0, "rule", 2).due(0, "recover", 0, 1).due(1, "event", 0, 0, 9);
        // a product above the greatest int
        of("24").loss(0, 10, 0, 0, 99999).due(0, "policy", 1, 1).due(0, "rule", 2).due(0, "recover", 0, 99998).due(1, "event", 0, 0, 9);
    }

    private static void parts() {
        Run t = of("25").due(99999, "sum", 0, 100).due(2, "insurer", 50).due(3, "insurer", 30).due(4, "insurer", 7)
            .due(0, "loss", 10, 0, 0, 25, 10).parts(7, 6, 6, 6);
        t.due(2, "report", 0, 11, 101).parts(32, 32, 30, 7).due(3, "report", 0, 12, 186).parts(99, 50, 30, 7)
            .due(4, "report", 0, 13, 400).parts(100, 50, 30, 7);
        t.due(0, "way", 1).parts(100, 50, 30, 7).due(3, "unreport", 0).parts(99, 50, 30, 7).due(2, "unreport", 0).parts(54, 27, 16, 4)
            .due(1, "unreport", 0).parts(13, 7, 4, 1);
        t.due(1, "way", 2).parts(8, 8, 7, 2).due(2, "report", 0, 11, 5).parts(2, 1, 1, 1).due(3, "report", 0, 12, 187).parts(100, 50, 30, 7);
        t.due(2, "way", 3).parts(100, 50, 30, 7).due(2, "unreport", 0).parts(5, 0, 0, 0).due(3, "report", 0, 12, 120).parts(100, 20, 0, 0);
        t.due(0, "fail", 0, true).parts(0, 50, 30, 7).due(0, "fail", 1, true).parts(0, 0, 30, 7).due(1, "fail", 0, false).parts(100, 0, 13, 7)
            .due(120, "ofYear", 0, 2);
        t.due(0, "fail", 0, true).due(0, "fail", 2, true).due(0, "fail", 3, true).parts(0, 0, 0, 0).due(120, "ofYear", 0, 1);
        t.due(INDEX, "part", 4, 0, 0).due(INDEX, "part", -1, 0, 0).due(INDEX, "part", 0, 1, 0).due(INDEX, "part", 0, -1, 0)
            .due(INDEX, "part", 0, 0, 4).due(INDEX, "part", 0, 0, -1);
        // the coins that are left go to the greatest rests; of those that are the same, to the one ahead
        of("25").due(99999, "sum", 0, 10).due(2, "insurer", 10).due(3, "insurer", 10).due(0, "way", 1).loss(0, 1, 0, 0, 11).parts(4, 4, 3);
        of("25").due(99999, "sum", 0, 10).due(2, "insurer", 25).due(3, "insurer", 15).due(0, "way", 1).loss(0, 1, 0, 0, 7).parts(1, 4, 2);
        // what a failed one would have is shared anew by EVENT
        of("25").due(99999, "sum", 0, 10).due(2, "insurer", 10).due(0, "fail", 1, true).loss(0, 1, 0, 0, 9).loss(1, 9, 0, 0, 9)
            .due(9, "part", 0, 0, 0).due(9, "part", 0, 1, 0).due(18, "paidBy", 0, 0).due(0, "paidBy", 1, 0);
        of("30").due(0, "paidBy", 0, 3).due(INDEX, "paidBy", 1, 0).due(INDEX, "paidBy", -1, 0).due(INDEX, "paidBy", 0, 4).due(INDEX, "paidBy", 0, -1);
    }

    private static void taken() {
        Run t = of("26").loss(0, 0, 0, 0, 500).loss(1, 100, 0, 0, 300).loss(2, 400, 0, 0, 500).due(0, "share", 15).due(1, "layer", 200, 150, 0, 10)
            .due(2, "layer", 100, 100, 9, 10).due(3, "share", 50).due(4, "stop", 100, 60);
        int[][] takes = {{75, 150, 100, 87, 0}, {45, 0, 100, 77, 60}};
        for (int nth = 0; nth < 2; nth++) {
            for (int contract = 0; contract < 5; contract++) {
                t.due(takes[nth][contract], "taken", 0, nth, contract);
                t.due(takes[0][contract], "taken", 1, 0, contract);
            }
        }
        t.due(88, "event", 0, 0, 10).due(18, "event", 0, 1, 10).due(106, "ofYear", 0, 3).due(694, "ofYear", 0, 4);
        t.due(INDEX, "taken", 4, 0, 0).due(INDEX, "taken", -1, 0, 0).due(INDEX, "taken", 0, 2, 0).due(INDEX, "taken", 0, -1, 0)
            .due(INDEX, "taken", 0, 0, 5).due(INDEX, "taken", 0, 0, -1);
        // only of the PARTS of the INSURER 0
        of("26").due(2, "insurer", 99999).loss(0, 0, 0, 0, 101).due(0, "share", 50).due(25, "taken", 0, 0, 0).due(26, "event", 0, 0, 10);
        // AGAIN 1: the WIDE twice in a YEAR
        of("26").loss(0, 0, 0, 0, 90).loss(1, 10, 0, 0, 90).loss(2, 20, 0, 0, 90).due(0, "layer", 20, 40, 1, 5).due(40, "taken", 0, 0, 0)
            .due(40, "taken", 0, 1, 0).due(0, "taken", 0, 2, 0).due(90, "event", 0, 2, 10);
    }

    private static void why() {
        of("27").loss(0, 10, 0, 0, 100).due("100>100>100>100>100>100=100=100", "why", 0, 0).due(0, "policy", 1, 10).due(99999, "policy", 4, 80)
            .due(99999, "policy", 5, 75).due(0, "policy", 3, 5).due(0, "rule", 1).due(0, "recover", 0, 8).due(2, "insurer", 20).due(0, "share", 10)
            .due(1, "stop", 30, 40).due("100>100>80>75>70>62=42+20=4+8+30", "why", 0, 0).due(INDEX, "why", 0, 1);
        of("27").due(INDEX, "why", 4, 0).due(INDEX, "why", -1, 0).due(INDEX, "why", 0, 0).due(INDEX, "why", 0, -1);
        of("28").due("", "worst").loss(0, 730, 0, 0, 0).due("", "worst").loss(1, 365, 0, 0, 105).loss(2, 800, 0, 0, 105).due("1:0:1.05", "worst")
            .loss(3, 900, 0, 0, 106).due("2:1:1.06", "worst").due(99999, "policy", 8, 0).due("1:0:0.00", "worst");
    }

    private static void ofYear() {
        Run t = of("29").loss(0, 10, 0, 0, 500).loss(1, 20, 0, 0, 300).loss(2, 1, 0, 0, 50).due(0, "policy", 9, 5).due(0, "recover", 2, 20)
            .due(0, "recover", 0, 100).due(0, "policy", 1, 100).due(0, "policy", 3, 150).due(99999, "policy", 8, 1000).due(0, "policy", 13, 100)
            .due(0, "layer", 100, 50, 3, 7).due(99999, "sum", 0, 200).due(2, "insurer", 10);
        int[] facts = {850, 320, 410, 290, 100, 120, 4, 108, 14, 0, 550};
        for (int what = 0; what < facts.length; what++) {
            t.due(facts[what], "ofYear", 0, what);
        }
        t.due(0, "ofYear", 1, 0).due(150, "ofYear", 1, 9).due(1000, "ofYear", 1, 10);
        t.due(INDEX, "ofYear", 4, 11).due(INDEX, "ofYear", -1, 0).due(ARGUMENT, "ofYear", 0, 11).due(ARGUMENT, "ofYear", 3, -1);
    }

    private static void steps() {
        Run t = of("29").due(0, "policy", 13, 99999).due(4, "ofYear", 0, 6).due(3, "ofYear", 1, 6).due(2, "ofYear", 2, 6).due(1, "ofYear", 3, 6)
            .due(109998, "ofYear", 0, 7).due(64999, "ofYear", 3, 7);
        t.loss(0, 0, 0, 0, 1).due(6, "ofYear", 1, 6).due(5, "ofYear", 2, 6).loss(1, 10, 0, 0, 1).due(8, "ofYear", 1, 6).loss(2, 20, 0, 0, 1)
            .due(9, "ofYear", 1, 6).due(184998, "ofYear", 1, 7).due(0, "recover", 0, 1).due(8, "ofYear", 1, 6);
        t.due(0, "policy", 9, 364).due(109998 / 365, "ofYear", 0, 7).due(364, "policy", 9, 365).due(0, "ofYear", 0, 7)
            .due(365, "policy", 9, 1459).due(0, "ofYear", 2, 7).due(178, "ofYear", 3, 7);
        of("29").loss(0, 730, 0, 0, 1).loss(1, 740, 0, 0, 1).loss(2, 750, 0, 0, 1).due(2, "ofYear", 2, 6).due(8, "ofYear", 3, 6);
    }

    private static void ofContract() {
        Run t = of("31").loss(0, 0, 0, 0, 90).loss(1, 10, 0, 0, 90).loss(2, 20, 0, 0, 90).due(0, "layer", 20, 40, 1, 99)
            .due(1, "layer", 60, 20, 9, 7).due(2, "share", 50).due(3, "stop", 30, 70);
        int[][] facts = {{80, 99, 0}, {60, 21, -1}, {65, 0, -1}, {35, 0, 35}};
        for (int contract = 0; contract < 4; contract++) {
            for (int what = 0; what < 3; what++) {
                t.due(facts[contract][what], "ofContract", contract, 0, what);
            }
        }
        t.due(0, "ofContract", 0, 1, 0).due(80, "ofContract", 0, 1, 2).due(70, "ofContract", 3, 1, 2).due(120, "ofYear", 0, 8)
            .due(INDEX, "ofContract", 4, 0, 3).due(INDEX, "ofContract", -1, 0, 0).due(INDEX, "ofContract", 0, 4, 3).due(INDEX, "ofContract", 0, -1, 0)
            .due(ARGUMENT, "ofContract", 0, 0, 3).due(ARGUMENT, "ofContract", 0, 0, -1);
        of("31").loss(0, 0, 0, 0, 99999).due(0, "layer", 0, 99999, 8, 999).due(999, "ofContract", 0, 0, 1).due(1, "layer", 99999, 99999, 8, 0)
            .due(899991 - 99999, "ofContract", 0, 0, 2);
        of("31").loss(0, 0, 0, 0, 50).due(0, "layer", 0, 99, 0, 999).due(0, "ofContract", 0, 0, 1).due(49, "ofContract", 0, 0, 2);
        of("32").due(0, "share", 7).due(1, "layer", 1, 2, 3, 4).due(2, "stop", 5, 6).due("share 7", "contract", 0).due("layer 1+2*3@4", "contract", 1)
            .due("stop 5+6", "contract", 2).due(INDEX, "contract", 3).due(INDEX, "contract", -1);
    }

    private static void wouldAndLate() {
        of("33").loss(0, 0, 0, 0, 15).loss(1, 10, 0, 0, 15).due(28, "would", 0, 10).due(16, "would", 0, 50).due(2, "would", 0, 99).due(30, "would", 0, 1)
            .due(0, "would", 1, 50).due(INDEX, "would", 4, 0).due(INDEX, "would", -1, 5).due(ARGUMENT, "would", 0, 0).due(ARGUMENT, "would", 0, 100);
        of("33").loss(0, 0, 0, 0, 1000).sixContracts().unchanged(533 - 53, "would", 0, 10);
        of("34").loss(0, 10, 0, 0, 100).due(0, "policy", 1, 30).unchanged(50, "late", 12, 0, 0, 50).unchanged(20, "late", 12, 1, 0, 50)
            .unchanged(0, "late", 12, 1, 0, 0).due(1459, "today", 10).unchanged(20, "late", 900, 0, 0, 50).due(0, "policy", 9, 20)
            .unchanged(0, "late", 19, 0, 0, 50).unchanged(20, "late", 20, 0, 0, 50).due(20, "policy", 9, 0);
        of("34").twelveLosses().unchanged(70, "late", 0, 1, 1, 70);
        // less NETS: with the late one ahead the EVENT is of a KIND of which nothing is kept
        of("34").loss(0, 10, 0, 0, 100).due(99999, "policy", 6, 0).unchanged(-100, "late", 9, 0, 1, 5).unchanged(0, "late", 11, 1, 1, 5)
            .unchanged(5, "late", 11, 0, 1, 5);
        of("34").due(ARGUMENT, "late", -1, 0, 0, 0).due(ARGUMENT, "late", 1460, 0, 0, 0).due(ARGUMENT, "late", 0, 3, 0, 0).due(ARGUMENT, "late", 0, -1, 0, 0)
            .due(ARGUMENT, "late", 0, 0, 3, 0).due(ARGUMENT, "late", 0, 0, -1, 0).due(ARGUMENT, "late", 0, 0, 0, 100000).due(ARGUMENT, "late", 0, 0, 0, -1);
    }

    private static void triangle() {
        Run t = of("35").due(0, "loss", 0, 0, 0, 100, 10).due(2, "report", 0, 365, 150).due(3, "report", 0, 1459, 90)
            .due(1, "loss", 370, 1, 0, 200, 730).due(2, "loss", 1459, 1, 0, 8, 1459);
        int[][] cums = {{100, 150, 150, 90}, {0, 200, 200, -1}, {0, 0, -1, -1}, {8, -1, -1, -1}};
        for (int year = 0; year < 4; year++) {
            for (int age = 0; age < 4; age++) {
                t.due(cums[year][age], "cum", year, age);
            }
        }
        t.due(INDEX, "cum", 4, 0).due(INDEX, "cum", -1, 0).due(INDEX, "cum", 0, 4).due(INDEX, "cum", 0, -1);
        of("36").due("1", "growth", 0).due("1", "growth", 1).due("1", "growth", 2).due(INDEX, "growth", 3).due(INDEX, "growth", -1);
        t.due("7/2", "growth", 0).due("1", "growth", 1).due("3/5", "growth", 2);
        t.due("90", "ultimate", 0).due("120", "ultimate", 1).due("0", "ultimate", 2).due("84/5", "ultimate", 3);
        t.due(1459, "today", 1458).due("1", "growth", 2).due("150", "ultimate", 0).due("200", "ultimate", 1).due("-", "ultimate", 3)
            .due(1458, "today", 729).due(150, "cum", 0, 1).due(0, "cum", 1, 0).due(-1, "cum", 0, 2).due("3/2", "growth", 0)
            .due(729, "today", 363).due(-1, "cum", 0, 0).due("-", "ultimate", 0).due(363, "today", 364).due(100, "cum", 0, 0).due("100", "ultimate", 0);
        // a GROWTH to nothing is 0, one from nothing is 1
        of("36").due(0, "loss", 0, 0, 0, 9, 0).due(2, "report", 0, 400, 0).due(3, "report", 0, 900, 7).due("0", "growth", 0).due("1", "growth", 1)
            .due("1", "growth", 2).due("7", "ultimate", 0);
        of("37").due("0", "ultimate", 3).due(INDEX, "ultimate", 4).due(INDEX, "ultimate", -1);
        of("38").due("0.00", "money", 0).due("0.05", "money", 5).due("-0.05", "money", -5).due("0.10", "money", 10).due("12.00", "money", 1200)
            .due("-21474836.48", "money", MIN).due("21474836.47", "money", MAX).due("-1.00", "money", -100);
    }

    private static void house() {
        of("39").loss(0, 10, 0, 0, 100).loss(1, 10, 1, 0, 0).loss(2, 500, 1, 0, 5).due(2, "insurer", 5).due(0, "share", 5).due(1459, "today", 600)
            .due(0, "way", 2).due(0, "rule", 1).due(0, "fail", 1, true).due(1, "knock").due(2, "knock").due(3, "house", 0).due(2, "house", 1)
            .due(1, "house", 2).due(9, "house", 3).due(600, "house", 4).due(2, "house", 5).due(1, "house", 6).due(2, "house", 7).due(2, "house", 8)
            .due(2, "house", 9).due(2, "house", 10).due(ARGUMENT, "house", 11).due(ARGUMENT, "house", -1).due(8, "undo").due(2, "house", 10);
        of("40").due(INDEX, "number", 14).due(INDEX, "number", -1).due(0, "policy", 13, 5).due(5, "number", 13);
        of("41").due(1, "knock").due(2, "knock").due(3, "knock");
    }

    private static void soundAndDigest() {
        of("42").due(true, "isSound").twelveLosses().due(3, "policy", 12, 30).due(0, "policy", 1, 7).due(0, "policy", 0, 1).due(0, "policy", 3, 50)
            .due(0, "stop", 10, 200).due(1, "layer", 0, 100, 0, 7).due(true, "isSound");
        of("43").due(-1479702987025091728L, "digest").due(-1479702987025091728L, "digest");
        Run t = of("43").loss(0, 400, 1, 2, 130);
        Object one = t.asked("digest");
        t.due(1, "knock");
        Calls.check("promise 43: a knock changes the digest", t.asked("digest").equals(one), false);
    }
}
