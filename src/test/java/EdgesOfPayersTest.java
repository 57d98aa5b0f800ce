/** INSURERS, CONTRACTS, premiums and triangles (sections 3 to 5 of the document), at the edges that its sentences name. */
public final class EdgesOfPayersTest {
    private static final int OWN = 1;
    private static final int YEAR_OWN = 3;
    private static final int EVENT_BOUND = 4;
    private static final int YEAR_BOUND = 8;
    private static final int WAIT = 9;
    private static final int VALUE = 11;
    private static final int SPAN = 12;
    private static final int BASE = 13;

    private static final int OWED = 6;
    private static final int WHOLE = 7;
    private static final int DUE = 9;
    private static final int NET = 10;

    private EdgesOfPayersTest() {
    }

    public static void main(String[] args) {
        atMostAllSums();
        alike();
        bySums();
        alone();
        first();
        splitRests();
        failed();
        failedByBounds();
        byEvent();
        borne();
        paidBy();
        shares();
        layers();
        layersAgain();
        stops();
        blocks();
        noCoinBoth();
        pricesOfLayers();
        couldTakeStill();
        onlyOfTheFirstInsurer();
        contractsBeginAnew();
        contractTexts();
        would();
        steps();
        premiums();
        cums();
        growths();
        ultimates();
        ultimateInLowestTerms();
        ultimateBeyondLong();
        money();
        why();
        eachEventOfItsYear();
        worst();
        ofYear();
        house();
        sound();
        soundAtBounds();
        digest();
        Calls.end("edges of payers");
    }

    private static Run of(String sentence) {
        return Run.of(sentence);
    }

    // ---- section 3

    private static void atMostAllSums() {
        for (int way = 0; way < 4; way++) {
            Run t = of("Of the DUE of an EVENT, but at most all SUMS together: WAY " + way).sums(50, 30).due(0, "way", way).loss(0, 9, 0, 0, 81);
            t.parts(50, 30).due(1, "ofYear", 0, 1).due(2, "report", 0, 10, 80).parts(50, 30).due(0, "ofYear", 0, 1).due(3, "report", 0, 11, 99999).parts(50, 30)
                .eachEvent(DUE, 99999).due(99919, "ofYear", 0, 1).due(80, "ofYear", 0, 2).due(4, "report", 0, 12, 79).due(79, "ofYear", 0, 2);
            of("nothing is DUE: WAY " + way).sums(50, 30).due(0, "way", way).loss(0, 9, 0, 0, 81).set(OWN, 81).parts(0, 0).due("81>81>0>0>0>0=0+0=0", "why", 0, 0);
        }
        of("(of those that FAILED, too)").sums(50, 30, 20).due(0, "fail", 1, true).due(0, "way", 3).loss(0, 9, 0, 0, 60).parts(50, 0, 10).due(2, "report", 0, 10, 90)
            .parts(50, 0, 20).due(20, "ofYear", 0, 1);
    }

    private static void alike() {
        of("0 ALIKE: it is SPREAD over all").sums(99999, 99999, 99999).loss(0, 9, 0, 0, 1).parts(1, 0, 0).due(2, "report", 0, 10, 2).parts(1, 1, 0)
            .due(3, "report", 0, 11, 3).parts(1, 1, 1).due(4, "report", 0, 12, 4).parts(2, 1, 1).due(5, "report", 0, 13, 99999).parts(33333, 33333, 33333);
        of("each one whose bound is not yet come to gets one coin").sums(1, 5, 4).loss(0, 9, 0, 0, 3).parts(1, 1, 1).due(2, "report", 0, 10, 4).parts(1, 2, 1)
            .due(3, "report", 0, 11, 9).parts(1, 4, 4).due(4, "report", 0, 12, 10).parts(1, 5, 4).due(5, "report", 0, 13, 11).parts(1, 5, 4);
        of("till nothing is left, or all bounds are come to: 4").sums(5, 1, 2, 99999).loss(0, 9, 0, 0, 7).parts(2, 1, 2, 2).due(2, "report", 0, 10, 8).parts(3, 1, 2, 2)
            .due(3, "report", 0, 11, 9).parts(3, 1, 2, 3).due(4, "report", 0, 12, 14).parts(5, 1, 2, 6);
    }

    private static void bySums() {
        of("1 SUMS: SPLIT by SUMS").sums(60, 30, 10).due(0, "way", 1).loss(0, 9, 0, 0, 50).parts(30, 15, 5).due(2, "report", 0, 10, 100).parts(60, 30, 10)
            .due(3, "report", 0, 11, 1).parts(1, 0, 0).due(4, "report", 0, 12, 99).parts(59, 30, 10);
        of("Products are as great as they are: SUMS").sums(99999, 99998).due(0, "way", 1).loss(0, 9, 0, 0, 99999).parts(50000, 49999);
    }

    private static void alone() {
        of("2 ALONE: each would owe its SUM, but at most the DUE").sums(60, 100).due(0, "way", 2).loss(0, 9, 0, 0, 60).parts(30, 30).due(2, "report", 0, 10, 61).parts(30, 31)
            .due(3, "report", 0, 11, 59).parts(30, 29).due(4, "report", 0, 12, 100).parts(38, 62).due(5, "report", 0, 13, 120).parts(45, 75);
        of("if these together are no more than the DUE, each does").sums(30, 70).due(0, "way", 2).loss(0, 9, 0, 0, 99).parts(30, 69).due(2, "report", 0, 10, 100).parts(30, 70)
            .due(3, "report", 0, 11, 101).parts(30, 70).due(4, "report", 0, 12, 71).parts(21, 50).due(5, "report", 0, 13, 30).parts(15, 15);
        of("each would owe its SUM, but at most the DUE: a DUE of 1").sums(1, 2).due(0, "way", 2).loss(0, 9, 0, 0, 1).parts(1, 0).due(2, "report", 0, 10, 2).parts(1, 1)
            .due(3, "report", 0, 11, 3).parts(1, 2);
        of("2 ALONE: one INSURER").sums(30).due(0, "way", 2).loss(0, 9, 0, 0, 29).parts(29).due(2, "report", 0, 10, 30).parts(30).due(3, "report", 0, 11, 31).parts(30);
        of("Products are as great as they are: ALONE").sums(99999, 99999, 99999).due(0, "way", 2).loss(0, 9, 0, 0, 99999).parts(33333, 33333, 33333);
    }

    private static void first() {
        of("3 FIRST: by rising numbers each takes as much as there is, up to its SUM").sums(50, 30, 20).due(0, "way", 3).loss(0, 9, 0, 0, 49).parts(49, 0, 0)
            .due(2, "report", 0, 10, 50).parts(50, 0, 0).due(3, "report", 0, 11, 51).parts(50, 1, 0).due(4, "report", 0, 12, 80).parts(50, 30, 0)
            .due(5, "report", 0, 13, 81).parts(50, 30, 1).due(6, "report", 0, 14, 100).parts(50, 30, 20);
    }

    private static void splitRests() {
        of("the coins that are left go one each to those with the greatest rests").sums(10, 25, 15).due(0, "way", 1).loss(0, 9, 0, 0, 7).parts(1, 4, 2)
            .due(2, "report", 0, 10, 3).parts(1, 1, 1).due(3, "report", 0, 11, 1).parts(0, 1, 0);
        of("amount * weight / sum").sums(1, 6).due(0, "way", 1).loss(0, 9, 0, 0, 3).parts(0, 3).due(2, "report", 0, 10, 4).parts(1, 3).due(3, "report", 0, 11, 7).parts(1, 6);
        of("SPLIT by weights (their sum above 0): 1").sums(1).due(0, "way", 1).loss(0, 9, 0, 0, 1).parts(1).due(1, "way", 2).parts(1).due(2, "report", 0, 10, 2).parts(1);
        of("of several to the one ahead").sums(10, 10, 10).due(0, "way", 1).loss(0, 9, 0, 0, 1).parts(1, 0, 0).due(2, "report", 0, 10, 2).parts(1, 1, 0)
            .due(3, "report", 0, 11, 29).parts(10, 10, 9);
        of("one each").sums(1, 1, 1, 99).due(0, "way", 1).loss(0, 9, 0, 0, 51).parts(1, 1, 0, 49).due(2, "report", 0, 10, 34).parts(1, 0, 0, 33)
            .due(3, "report", 0, 11, 60).parts(1, 1, 0, 58);
    }

    private static void failed() {
        of("The PARTS of those that FAILED are 0 then").sums(50, 50, 50).due(0, "fail", 1, true).loss(0, 9, 0, 0, 30).parts(15, 0, 15).due(1, "fail", 1, false)
            .parts(10, 10, 10).due(0, "fail", 0, true).due(0, "fail", 2, true).parts(0, 30, 0).due(0, "fail", 1, true).parts(0, 0, 0).due(30, "ofYear", 0, 1)
            .due(0, "ofYear", 0, 2).eachEvent(DUE, 30);
        of("The PARTS of those that FAILED are 0: one INSURER").sums(50).due(0, "fail", 0, true).loss(0, 9, 0, 0, 30).parts(0).due(30, "ofYear", 0, 1);
        of("by rising numbers: of what is SPREAD").sums(50, 50, 50, 50).due(0, "fail", 0, true).loss(0, 9, 0, 0, 41).parts(0, 14, 14, 13);
    }

    private static void failedByBounds() {
        of("SPREAD over the others, with what is left of their SUMS as bounds, in addition to their PARTS").sums(40, 10, 12, 99).due(0, "way", 3).due(0, "fail", 0, true)
            .loss(0, 9, 0, 0, 40).parts(0, 10, 12, 18).due(2, "report", 0, 10, 50).parts(0, 10, 12, 28).due(3, "report", 0, 11, 62).parts(0, 10, 12, 40)
            .due(4, "report", 0, 12, 161).parts(0, 10, 12, 99).due(40, "ofYear", 0, 1).due(5, "report", 0, 13, 121).parts(0, 10, 12, 99)
            .due(0, "ofYear", 0, 1).due(6, "report", 0, 14, 122).parts(0, 10, 12, 99).due(1, "ofYear", 0, 1);
        of("what these were together").sums(20, 20, 20, 20).due(0, "way", 1).due(0, "fail", 0, true).due(0, "fail", 3, true).loss(0, 9, 0, 0, 42).parts(0, 20, 20, 0)
            .due(2, "ofYear", 0, 1).due(2, "report", 0, 10, 39).parts(0, 20, 19, 0).due(0, "ofYear", 0, 1);
    }

    private static void byEvent() {
        of("(All of it by EVENT.)").sums(50, 30).due(0, "way", 3).due(0, "fail", 1, true).loss(0, 9, 0, 0, 70).loss(1, 20, 0, 0, 70).due("70>70>70>70>70>70=50+0=50", "why", 0, 0)
            .due("70>70>70>70>70>70=50+0=50", "why", 0, 1).due(40, "ofYear", 0, 1).due(100, "paidBy", 0, 0);
    }

    private static void borne() {
        // a LOSS that does not COUNT is BORNE, too, but for its BACK
        of("all SUMS of LOSSES of the YEAR, less all PARTS, less what counts of BACK").loss(0, 9, 0, 0, 50).loss(1, 30, 0, 0, 40).loss(2, 400, 0, 0, 7).set(WAIT, 10)
            .due(50, "ofYear", 0, 1).due(0, "recover", 0, 60).due(0, "ofYear", 0, 1).due(60, "recover", 0, 49).due(1, "ofYear", 0, 1).set(OWN, 5).due(6, "ofYear", 0, 1)
            .due(0, "recover", 1, 40).due(1, "ofYear", 0, 1).due(5, "ofYear", 1, 1).due(0, "ofYear", 2, 1);
    }

    private static void paidBy() {
        of("Returns its PARTS in that YEAR together").sums(10, 10).loss(0, 9, 0, 0, 5).loss(1, 20, 0, 0, 30).loss(2, 400, 0, 0, 3).due(13, "paidBy", 0, 0).due(12, "paidBy", 1, 0)
            .due(2, "paidBy", 0, 1).due(1, "paidBy", 1, 1).due(0, "paidBy", 1, 3).due(25, "ofYear", 0, 2);
    }

    // ---- section 4

    private static void shares() {
        of("0 SHARE: what is left * percent / 100").loss(0, 9, 0, 0, 99).due(0, "share", 1).due(0, "taken", 0, 0, 0).due(1, "share", 99).due(98, "taken", 0, 0, 1)
            .due(1, "event", 0, 0, NET).due(2, "report", 0, 10, 101).due(1, "taken", 0, 0, 0).due(99, "taken", 0, 0, 1).due(1, "event", 0, 0, NET)
            .due(3, "report", 0, 11, 99999).due(999, "taken", 0, 0, 0).due(98010, "taken", 0, 0, 1);
        // rounded down by EVENT
        of("0 SHARE: EVENT by EVENT").loss(0, 9, 0, 0, 3).loss(1, 20, 0, 0, 3).due(0, "share", 50).takes(0, 1, 1).due(4, "ofYear", 0, 3).due(2, "ofYear", 0, 4);
    }

    private static void layers() {
        of("1 LAYER: what is above FROM, but at most WIDE").loss(0, 9, 0, 0, 50).due(0, "layer", 50, 10, 0, 0).takes(0, 0).due(2, "report", 0, 10, 51).takes(0, 1)
            .due(3, "report", 0, 11, 59).takes(0, 9).due(4, "report", 0, 12, 60).takes(0, 10).due(5, "report", 0, 13, 61).takes(0, 10).due(51, "event", 0, 0, NET)
            .due(6, "report", 0, 14, 49).takes(0, 0).due(49, "event", 0, 0, NET);
        of("1 LAYER: from the first coin, one wide, all").loss(0, 9, 0, 0, 99999).due(0, "layer", 0, 1, 0, 0).due(1, "layer", 99998, 1, 0, 0).due(2, "layer", 99999, 99999, 0, 0)
            .takes(0, 1).takes(1, 1).takes(2, 0).due(3, "share", 1).due(4, "layer", 0, 99999, 0, 0).takes(3, 999).takes(4, 98998).due(0, "event", 0, 0, NET);
    }

    private static void layersAgain() {
        for (int again = 0; again <= 9; again++) {
            Run t = of("in a YEAR at most WIDE * (AGAIN + 1) together (with AGAIN 9 without end): " + again).set(SPAN, 0).due(0, "layer", 20, 50, again, 0);
            int left = 50 * (again + 1);
            for (int i = 0; i < 12; i++) {
                int takes = again == 9 ? 50 : Math.min(50, left);
                t.loss(i, 9 + i, 0, 0, 100).due(takes, "taken", 0, i, 0);
                left -= takes;
            }
            t.due(again == 9 ? 600 : 50 * (again + 1), "ofContract", 0, 0, 0).due(again == 9 ? -1 : 0, "ofContract", 0, 0, 2);
        }
        of("in a YEAR at most WIDE * (AGAIN + 1) together: used up in part").set(SPAN, 0).due(0, "layer", 0, 50, 1, 0).loss(0, 1, 0, 0, 30).loss(1, 2, 0, 0, 49).loss(2, 3, 0, 0, 50)
            .loss(3, 4, 0, 0, 50).takes(0, 30, 49, 21, 0).eachEvent(NET, 0, 0, 29, 50);
        of("WIDE * (AGAIN + 1) is above the greatest sum").loss(0, 9, 0, 0, 99999).due(0, "layer", 0, 99999, 8, 0).due(799992, "ofContract", 0, 0, 2)
            .due(899991, "ofContract", 0, 1, 2);
    }

    private static void stops() {
        of("2 STOP: of all that was left ahead of it in that YEAR together, what is above FROM").set(SPAN, 0).loss(0, 1, 0, 0, 50).due(0, "stop", 100, 60).takes(0, 0)
            .loss(1, 2, 0, 0, 50).takes(0, 0, 0).loss(2, 3, 0, 0, 1).takes(0, 0, 0, 1).loss(3, 4, 0, 0, 58).takes(0, 0, 0, 1, 58).loss(4, 5, 0, 0, 1).takes(0, 0, 0, 1, 58, 1)
            .loss(5, 6, 0, 0, 1).takes(0, 0, 0, 1, 58, 1, 0).due(60, "ofContract", 0, 0, 0).due(0, "ofContract", 0, 0, 2).eachEvent(NET, 50, 50, 0, 0, 0, 1);
        of("2 STOP: but at most WIDE").loss(0, 9, 0, 0, 200).due(0, "stop", 100, 99).takes(0, 99).due(1, "stop", 100, 99).takes(1, 1).due(2, "stop", 100, 99).takes(2, 0)
            .due(3, "stop", 0, 99999).takes(3, 100).due(0, "event", 0, 0, NET);
        // what was left ahead of it: behind the CONTRACTS ahead, not what it left itself
        of("2 STOP: of all that was left ahead of it").set(SPAN, 0).loss(0, 1, 0, 0, 100).loss(1, 2, 0, 0, 100).loss(2, 3, 0, 0, 100).due(0, "share", 50).due(1, "stop", 20, 90)
            .takes(0, 50, 50, 50).takes(1, 30, 50, 10).eachEvent(NET, 20, 0, 40);
    }

    private static void blocks() {
        of("all of them look at what is left ahead of the first of them").loss(0, 9, 0, 0, 200).due(0, "share", 25).due(1, "layer", 50, 50, 0, 0).due(2, "layer", 100, 50, 0, 0)
            .due(3, "layer", 0, 50, 0, 0).takes(1, 50).takes(2, 50).takes(3, 50).due(0, "event", 0, 0, NET);
        of("LAYERS next to each other are a BLOCK: not behind a SHARE").loss(0, 9, 0, 0, 200).due(0, "layer", 50, 50, 0, 0).due(1, "share", 10).due(2, "layer", 100, 50, 0, 0)
            .takes(0, 50).takes(1, 15).takes(2, 35).due(100, "event", 0, 0, NET);
        of("LAYERS next to each other are a BLOCK: not behind a STOP").loss(0, 9, 0, 0, 200).due(0, "layer", 50, 50, 0, 0).due(1, "stop", 140, 5).due(2, "layer", 100, 50, 0, 0)
            .takes(0, 50).takes(1, 5).takes(2, 45).due(100, "event", 0, 0, NET);
        of("LAYERS next to each other are a BLOCK: behind it what is left").loss(0, 9, 0, 0, 200).due(0, "layer", 0, 50, 0, 0).due(1, "layer", 50, 50, 0, 0).due(2, "share", 50)
            .due(3, "stop", 40, 99).takes(2, 50).takes(3, 10).due(40, "event", 0, 0, NET);
        // also where the first of them has nothing to take any more
        of("all of them look at what is left ahead: the first one is used up").set(SPAN, 0).loss(0, 1, 0, 0, 80).loss(1, 2, 0, 0, 80).due(0, "layer", 0, 50, 0, 0)
            .due(1, "layer", 50, 50, 1, 0).takes(0, 50, 0).takes(1, 30, 30).eachEvent(NET, 0, 50);
    }

    private static void noCoinBoth() {
        of("In a BLOCK no two may have a coin both (FROM to FROM + WIDE, that one not in it)").due(0, "layer", 100, 50, 0, 0).unchanged(-8, "layer", 149, 1, 9, 9)
            .unchanged(-8, "layer", 100, 50, 0, 0).unchanged(-8, "layer", 100, 1, 0, 0).unchanged(-8, "layer", 99, 2, 0, 0).unchanged(-8, "layer", 0, 101, 0, 0)
            .unchanged(-8, "layer", 0, 99999, 0, 0).unchanged(-8, "layer", 120, 5, 0, 0).due(1, "layer", 150, 1, 0, 0).due(2, "layer", 99, 1, 0, 0).due(3, "layer", 0, 99, 0, 0)
            .unchanged(-8, "layer", 150, 99999, 0, 0).due(4, "layer", 151, 99999, 0, 0).unchanged(-8, "layer", 99999, 99999, 0, 0);
        of("no two may have a coin both: FROM + WIDE above 99999").due(0, "layer", 99999, 99999, 0, 0).unchanged(-8, "layer", 99999, 1, 0, 0).due(1, "layer", 0, 99999, 0, 0)
            .unchanged(-8, "layer", 99998, 1, 0, 0);
        of("In a BLOCK: behind another CONTRACT there is another one").due(0, "layer", 100, 50, 0, 0).due(1, "share", 5).due(2, "layer", 100, 50, 0, 0)
            .unchanged(-8, "layer", 149, 1, 0, 0).due(3, "stop", 5, 5).due(4, "layer", 100, 50, 0, 0).unchanged(-8, "layer", 100, 1, 0, 0);
        of("In a BLOCK: without what unsign() took").due(0, "layer", 100, 50, 0, 0).due(1, "layer", 0, 100, 0, 0).due(1, "unsign").due(1, "layer", 99, 1, 0, 0)
            .due(2, "layer", 0, 99, 0, 0).due(2, "unsign").due(1, "unsign").due(0, "unsign").due(0, "layer", 100, 50, 0, 0);
        of("In a BLOCK: with what comes together behind unsign()").due(0, "layer", 100, 50, 0, 0).due(1, "share", 5).due(1, "unsign").unchanged(-8, "layer", 149, 1, 0, 0);
    }

    private static void pricesOfLayers() {
        of("PRICE * (what it took in it, but at most WIDE * AGAIN)").set(SPAN, 0).loss(0, 1, 0, 0, 50).due(0, "layer", 0, 50, 0, 999).due(0, "ofContract", 0, 0, 1).due(0, "unsign")
            .due(0, "layer", 0, 50, 1, 999).due(999, "ofContract", 0, 0, 1).loss(1, 2, 0, 0, 1).due(999, "ofContract", 0, 0, 1).due(51, "ofContract", 0, 0, 0).due(0, "unsign")
            .due(0, "layer", 0, 50, 2, 999).due(1018, "ofContract", 0, 0, 1).loss(2, 3, 0, 0, 49).due(1998, "ofContract", 0, 0, 1).loss(3, 4, 0, 0, 50)
            .due(1998, "ofContract", 0, 0, 1).due(150, "ofContract", 0, 0, 0);
        of("with AGAIN 9 all of it").set(SPAN, 0).due(0, "layer", 0, 50, 9, 7);
        Run t = of("with AGAIN 9 all of it, with 8 as much as 8").set(SPAN, 0).due(0, "layer", 0, 50, 9, 7).due(1, "share", 1).due(2, "layer", 0, 50, 8, 7);
        for (int i = 0; i < 12; i++) {
            t.loss(i, 9 + i, 0, 0, 150);
        }
        t.due(84, "ofContract", 0, 0, 1).due(600, "ofContract", 0, 0, 0).due(56, "ofContract", 2, 0, 1).due(450, "ofContract", 2, 0, 0).due(140, "ofYear", 0, 8);
        of("PRICE: / WIDE, rounded down").loss(0, 9, 0, 0, 15).due(0, "layer", 0, 40, 9, 10).due(3, "ofContract", 0, 0, 1).due(1, "layer", 40, 40, 9, 0).due(0, "ofContract", 1, 0, 1)
            .due(2, "report", 0, 10, 40).due(10, "ofContract", 0, 0, 1).due(3, "report", 0, 11, 3).due(0, "ofContract", 0, 0, 1);
        of("PRICE: a WIDE of 1").loss(0, 9, 0, 0, 15).due(0, "layer", 14, 1, 1, 7).due(7, "ofContract", 0, 0, 1).due(1, "layer", 15, 1, 1, 7).due(0, "ofContract", 1, 0, 1);
        // PRICES are rounded down one by one
        of("PRICES of all LAYERS").loss(0, 9, 0, 0, 15).due(0, "layer", 0, 2, 9, 1).due(1, "layer", 10, 10, 9, 1).due(2, "layer", 2, 8, 9, 3).due(1, "ofContract", 0, 0, 1)
            .due(0, "ofContract", 1, 0, 1).due(3, "ofContract", 2, 0, 1).due(4, "ofYear", 0, 8).due(0, "ofYear", 1, 8);
        of("PRICES of all LAYERS: of just what they took").loss(0, 9, 0, 0, 15).due(0, "layer", 14, 1, 9, 7).due(7, "ofYear", 0, 8).due(1, "layer", 15, 1, 9, 400)
            .due(7, "ofYear", 0, 8).due(2, "report", 0, 10, 16).due(407, "ofYear", 0, 8).due(0, "ofYear", 1, 8);
        of("0 if it is no LAYER").loss(0, 9, 0, 0, 50).due(0, "share", 50).due(1, "stop", 0, 10).due(0, "ofContract", 0, 0, 1).due(0, "ofContract", 1, 0, 1).due(0, "ofYear", 0, 8);
    }

    private static void couldTakeStill() {
        of("how much it could take still in the YEAR (NONE, if there is no end, or it is a SHARE)").due(0, "share", 50).due(1, "layer", 0, 10, 9, 5).due(2, "layer", 10, 10, 8, 5)
            .due(3, "layer", 20, 10, 0, 5).due(4, "stop", 5, 20).due(-1, "ofContract", 0, 0, 2).due(-1, "ofContract", 1, 0, 2).due(90, "ofContract", 2, 0, 2)
            .due(10, "ofContract", 3, 0, 2).due(20, "ofContract", 4, 0, 2).loss(0, 9, 0, 0, 80).due(-1, "ofContract", 0, 0, 2).due(-1, "ofContract", 1, 0, 2)
            .due(80, "ofContract", 2, 0, 2).due(0, "ofContract", 3, 0, 2).due(15, "ofContract", 4, 0, 2).due(20, "ofContract", 4, 1, 2).due(40, "ofContract", 0, 0, 0)
            .due(5, "ofContract", 4, 0, 0).due(0, "ofContract", 0, 1, 0);
    }

    private static void onlyOfTheFirstInsurer() {
        of("CONTRACTS take from the PARTS of the INSURER 0").sums(10, 90).due(0, "way", 3).loss(0, 9, 0, 0, 60).due(0, "share", 50).takes(0, 5).due(5, "event", 0, 0, NET)
            .due(5, "ofYear", 0, 3).due(5, "ofYear", 0, 4).due(60, "ofYear", 0, 2).due(0, "fail", 0, true).takes(0, 0).due(0, "event", 0, 0, NET).due(60, "paidBy", 1, 0);
        of("What is left behind all is the NET: without CONTRACTS").loss(0, 9, 0, 0, 60).due(60, "event", 0, 0, NET).due(0, "ofYear", 0, 4).due(60, "ofYear", 0, 3);
    }

    private static void contractsBeginAnew() {
        Run t = of("each YEAR begins anew").due(0, "layer", 10, 20, 0, 30).due(1, "stop", 15, 30);
        for (int year = 0; year < 4; year++) {
            t.loss(2 * year, 365 * year, 0, 0, 40).loss(2 * year + 1, 365 * year + 364, 0, 0, 40).due(20, "taken", year, 0, 0).due(0, "taken", year, 1, 0)
                .due(5, "taken", year, 0, 1).due(25, "taken", year, 1, 1).due(30, "ofYear", year, 3).due(20, "ofContract", 0, year, 0).due(30, "ofContract", 1, year, 0);
        }
    }

    private static void contractTexts() {
        of("\"share \", the percent; \"layer \", FROM, \"+\", ..").due(0, "share", 1).due(1, "share", 99).due(2, "layer", 0, 1, 0, 0).due(3, "layer", 99999, 99999, 9, 999)
            .due(4, "stop", 0, 1).due(5, "stop", 99999, 99999).due("share 1", "contract", 0).due("share 99", "contract", 1).due("layer 0+1*0@0", "contract", 2)
            .due("layer 99999+99999*9@999", "contract", 3).due("stop 0+1", "contract", 4).due("stop 99999+99999", "contract", 5);
    }

    private static void would() {
        of("if a SHARE of that percent stood behind the CONTRACTS").set(SPAN, 0).loss(0, 1, 0, 0, 15).loss(1, 2, 0, 0, 15).loss(2, 400, 0, 0, 7).due(30, "would", 0, 1)
            .due(28, "would", 0, 10).due(2, "would", 0, 99).due(0, "stop", 10, 7).due(0, "ofYear", 1, 4).due(21, "would", 0, 10).due(7, "would", 1, 10).due(0, "would", 3, 99);
        of("(also if there are 6)").loss(0, 9, 0, 0, 1000).sixContracts().due(533, "ofYear", 0, 3).due(480, "would", 0, 10).due(6, "would", 0, 99).due(6, "house", 2)
            .due(533, "ofYear", 0, 3);
        // what a SHARE behind the last LAYER sees is what the BLOCK left
        of("behind the CONTRACTS: behind a BLOCK").loss(0, 9, 0, 0, 100).due(0, "layer", 0, 30, 0, 0).due(1, "layer", 30, 30, 0, 0).due(20, "would", 0, 50);
    }

    // ---- section 5

    private static void steps() {
        of("STEP of the YEAR 0 is 4; 1 less, if no EVENT of the YEAR ahead of it has a DUE above 0").due(4, "ofYear", 0, 6).due(3, "ofYear", 1, 6).due(2, "ofYear", 2, 6)
            .due(1, "ofYear", 3, 6).loss(0, 9, 0, 0, 1).set(OWN, 1).due(3, "ofYear", 1, 6).set(OWN, 0).due(6, "ofYear", 1, 6).due(5, "ofYear", 2, 6)
            .due(0, "recover", 0, 1).due(3, "ofYear", 1, 6);
        of("otherwise 2 more for each that has, but 9 at most").set(SPAN, 0).loss(0, 1, 0, 0, 1).due(6, "ofYear", 1, 6).loss(1, 2, 0, 0, 1).due(8, "ofYear", 1, 6).loss(2, 3, 0, 0, 1)
            .due(9, "ofYear", 1, 6).loss(3, 4, 0, 0, 1).due(9, "ofYear", 1, 6).due(8, "ofYear", 2, 6).due(7, "ofYear", 3, 6).loss(4, 400, 0, 0, 1).due(9, "ofYear", 2, 6)
            .due(8, "ofYear", 3, 6).set(YEAR_BOUND, 2).due(8, "ofYear", 1, 6);
        // an EVENT with a DUE makes it more, also if other ones have none; a FAILED INSURER changes nothing
        of("2 more for each that has").set(SPAN, 0).loss(0, 1, 0, 0, 5).loss(1, 2, 0, 0, 5).loss(2, 3, 0, 0, 5).set(YEAR_OWN, 10).due(6, "ofYear", 1, 6).due(0, "fail", 0, true)
            .due(6, "ofYear", 1, 6).set(YEAR_OWN, 15).due(3, "ofYear", 1, 6);
        of("the YEAR 3 makes no STEP").loss(0, 1400, 0, 0, 5).due(1, "ofYear", 3, 6);
    }

    private static void premiums() {
        of("BASE * (50 + 15 * STEP) * its days that are WAIT or later / 36500").due(0, "ofYear", 0, 7).set(BASE, 100).due(110, "ofYear", 0, 7).due(95, "ofYear", 1, 7)
            .due(80, "ofYear", 2, 7).due(65, "ofYear", 3, 7).set(BASE, 1).due(1, "ofYear", 0, 7).due(0, "ofYear", 1, 7).set(BASE, 99999).due(109998, "ofYear", 0, 7);
        of("its days that are WAIT or later").set(BASE, 1000).due(1100, "ofYear", 0, 7).set(WAIT, 1).due(1096, "ofYear", 0, 7).set(WAIT, 364).due(3, "ofYear", 0, 7)
            .due(950, "ofYear", 1, 7).set(WAIT, 365).due(0, "ofYear", 0, 7).due(950, "ofYear", 1, 7).set(WAIT, 366).due(0, "ofYear", 0, 7).due(947, "ofYear", 1, 7)
            .set(WAIT, 1095).due(0, "ofYear", 2, 7).due(650, "ofYear", 3, 7).set(WAIT, 1459).due(1, "ofYear", 3, 7).due(0, "ofYear", 0, 7);
        of("Products are as great as they are: PREMIUM").set(SPAN, 0).loss(0, 1, 0, 0, 1).loss(1, 2, 0, 0, 1).loss(2, 3, 0, 0, 1).set(BASE, 99999).due(184998, "ofYear", 1, 7);
    }

    private static void cums() {
        for (int year = 0; year < 4; year++) {
            for (int age = 0; age < 4; age++) {
                int day = 365 * (year + age + 1) - 1;
                Run t = of("CUM: the sum of SUMS, at the day 365 * (y + a + 1) - 1: " + year + ", " + age).due(0, "loss", 365 * year, 0, 0, 5, 365 * year);
                if (day > 1459) {
                    t.due(-1, "cum", year, age);
                    continue;
                }
                t.due(1, "loss", 365 * year, 1, 0, 70, Math.min(1459, day)).due(75, "cum", year, age).due(1459, "today", day).due(75, "cum", year, age)
                    .due(day, "today", day - 1).due(-1, "cum", year, age).due(day - 1, "today", 0).due(-1, "cum", year, age);
                if (day < 1459) {
                    t.due(0, "today", 1459).due(2, "loss", 365 * year, 2, 0, 900, day + 1).due(75, "cum", year, age).due(2, "report", 0, day + 1, 0).due(75, "cum", year, age);
                }
            }
        }
        of("CUM: of its LOSSES, also if they do not COUNT").loss(0, 9, 0, 0, 50).loss(1, 400, 0, 0, 7).set(WAIT, 10).set(VALUE, 99).due(50, "cum", 0, 0).due(50, "cum", 0, 3)
            .due(7, "cum", 1, 2).due(0, "cum", 2, 0).due(-1, "cum", 1, 3);
    }

    private static void growths() {
        of("the sum of CUM of a + 1, divided by that of CUM of a").due(0, "loss", 0, 0, 0, 4, 0).due(2, "report", 0, 400, 6).due(3, "report", 0, 800, 9)
            .due(4, "report", 0, 1200, 3).due("3/2", "growth", 0).due("3/2", "growth", 1).due("1/3", "growth", 2).due(1, "loss", 400, 0, 0, 4, 400).due("5/4", "growth", 0);
        of("1, if the latter is 0").due("1", "growth", 0).due("1", "growth", 1).due("1", "growth", 2).due(0, "loss", 0, 0, 0, 4, 400).due("1", "growth", 0).due("1", "growth", 1)
            .due(2, "report", 0, 800, 0).due("0", "growth", 1).due("1", "growth", 2).due(3, "report", 0, 1459, 5).due("1", "growth", 2);
        of("1, if the latter is 0: not if it is 1").due(0, "loss", 0, 0, 0, 1, 0).due(2, "report", 0, 400, 5).due(3, "report", 0, 800, 1).due(4, "report", 0, 1459, 0)
            .due("5", "growth", 0).due("1/5", "growth", 1).due("0", "growth", 2).due("0", "ultimate", 0);
        of("of all YEARS whose CUM of a + 1 is KNOWN").due(0, "loss", 0, 0, 0, 4, 0).due(2, "report", 0, 1459, 12).due(1, "loss", 365, 0, 0, 4, 365).due("3", "growth", 2)
            .due("1", "growth", 1).due(1459, "today", 1458).due("1", "growth", 2).due(1458, "today", 1459).due(2, "report", 1, 1100, 40).due("11/2", "growth", 1).due(1459, "today", 1458)
            .due("1", "growth", 1);
    }

    private static void ultimates() {
        of("its KNOWN CUM with the greatest AGE, times the GROWTHS from that AGE on to 2").due(0, "loss", 0, 0, 0, 2, 0).due(2, "report", 0, 400, 3).due(3, "report", 0, 800, 6)
            .due(4, "report", 0, 1459, 9).due(1, "loss", 400, 0, 0, 10, 400).due(2, "loss", 800, 0, 0, 10, 800).due(3, "loss", 1100, 0, 0, 10, 1100)
            .due("9", "ultimate", 0).due("15", "ultimate", 1).due("240/13", "ultimate", 2);
        // CUM with the AGE 3 itself, not by a GROWTH out of 0
        of("its KNOWN CUM with the greatest AGE").due(0, "loss", 0, 0, 0, 2, 0).due(2, "report", 0, 1000, 0).due(3, "report", 0, 1459, 7).due("7", "ultimate", 0)
            .due(1459, "today", 1458).due("0", "ultimate", 0).due(1458, "today", 999).due("2", "ultimate", 0);
    }

    private static void ultimateInLowestTerms() {
        // AGE 0 to 1: 3 + 10 + 10 of 2 + 10 + 10; AGE 1 to 2: 6 + 10 of 3 + 10; AGE 2 to 3: 9 of 6
        of("fractions in lowest terms").due(0, "loss", 0, 0, 0, 2, 0).due(2, "report", 0, 400, 3).due(3, "report", 0, 800, 6).due(4, "report", 0, 1459, 9)
            .loss(1, 400, 0, 0, 10).loss(2, 800, 0, 0, 10).loss(3, 1100, 0, 0, 10).due("23/22", "growth", 0).due("16/13", "growth", 1).due("3/2", "growth", 2)
            .due("240/13", "ultimate", 2).due("2760/143", "ultimate", 3).due("9", "ultimate", 0).due("15", "ultimate", 1);
        of("(NONE, if none is KNOWN)").loss(0, 9, 0, 0, 7).loss(1, 1100, 0, 0, 8).due(1459, "today", 1458).due("-", "ultimate", 3).due("7", "ultimate", 0).due(1458, "today", 1459)
            .due("8", "ultimate", 3).due(1459, "today", 364).due("7", "ultimate", 0).due("-", "ultimate", 1).due(364, "today", 363).due("-", "ultimate", 0);
        of("if the bottom is not 1: 0 is 0").loss(0, 9, 0, 0, 6).due(2, "report", 0, 400, 0).due("0", "growth", 0).due("0", "ultimate", 0).loss(1, 1100, 0, 0, 8).due("0", "ultimate", 3);
    }

    private static void ultimateBeyondLong() {
        Run t = of("Products are as great as they are: ULTIMATE");
        for (int i = 0; i < 3; i++) {
            t.due(i, "loss", 1200, 0, 0, 99999 - i, 1200);
        }
        for (int i = 3; i < 9; i++) {
            t.due(i, "loss", 10, 0, 0, 1 + i % 2, 10).due(2, "report", i, 700, 99990 - 3 * i).due(3, "report", i, 1000, 99979 - 7 * i).due(4, "report", i, 1400, 99998 - i);
        }
        t.due(9, "loss", 400, 0, 0, 3, 400).due(2, "report", 9, 1000, 99991).due(3, "report", 9, 1400, 99989);
        t.due(10, "loss", 800, 0, 0, 1, 800).due(2, "report", 10, 1400, 99961);
        java.math.BigInteger top = java.math.BigInteger.valueOf((Integer) t.asked("cum", 3, 0));
        java.math.BigInteger bottom = java.math.BigInteger.ONE;
        for (int age = 0; age < 3; age++) {
            for (int part = 0; part < 2; part++) {
                long sum = 0;
                for (int year = 0; year + age < 3; year++) {
                    sum += (Integer) t.asked("cum", year, age + 1 - part);
                }
                top = part == 0 ? top.multiply(java.math.BigInteger.valueOf(sum)) : top;
                bottom = part == 1 ? bottom.multiply(java.math.BigInteger.valueOf(sum)) : bottom;
            }
        }
        java.math.BigInteger common = top.gcd(bottom);
        Calls.check("the top is above the greatest long", top.divide(common).bitLength() > 63, true);
        t.due(top.divide(common) + "/" + bottom.divide(common), "ultimate", 3);
        // digits that are 0 in the middle of a long top are written, too
        of("Products are as great as they are: ULTIMATE").due(0, "loss", 10, 0, 0, 1, 10).due(2, "report", 0, 1459, 50000).due(1, "loss", 400, 0, 0, 99999, 1200)
            .due(2, "loss", 800, 0, 0, 99999, 1200).due(3, "loss", 1200, 0, 0, 80000, 1200).due("100000", "growth", 0).due("100000", "growth", 1)
            .due("50000", "growth", 2).due("40000000000000000000", "ultimate", 3);
    }

    private static void money() {
        of("hundredths with two digits behind \".\"").due("0.00", "money", 0).due("0.01", "money", 1).due("0.05", "money", 5).due("0.09", "money", 9).due("0.10", "money", 10)
            .due("0.99", "money", 99).due("1.00", "money", 100).due("1.01", "money", 101).due("12.00", "money", 1200).due("999.99", "money", 99999)
            .due("21474836.47", "money", Run.MAX);
        of("with \"-\" ahead below 0").due("-0.01", "money", -1).due("-0.99", "money", -99).due("-1.00", "money", -100).due("-1.05", "money", -105)
            .due("-21474836.47", "money", -Run.MAX).due("-21474836.48", "money", Run.MIN);
    }

    // ---- texts, house, sound, digest

    private static void why() {
        of("the PARTS with \"+\" between: one INSURER, no CONTRACT").loss(0, 9, 0, 0, 5).due("5>5>5>5>5>5=5=5", "why", 0, 0);
        of("the PARTS with \"+\" between: 4 INSURERS, 6 CONTRACTS").sums(4000, 3, 2, 1).due(0, "way", 1).loss(0, 9, 0, 0, 4006).sixContracts()
            .due("4006>4006>4006>4006>4006>4006=4000+3+2+1=400+360+324+291+262+236+2127", "why", 0, 0);
        of("WHOLE > GROSS > PAID > KEPT > OWED > DUE").loss(0, 9, 0, 1, 100).set(VALUE, 2).set(10, 1).set(OWN, 5).set(6, 40).set(YEAR_OWN, 10).due(0, "recover", 0, 80)
            .due("100>50>45>40>30>20=20=20", "why", 0, 0);
    }

    /** Two EVENTS in each of two YEARS, no two of them alike in anything. */
    private static Run fourEvents(String sentence) {
        return of(sentence).sums(60, 500).due(0, "way", 1).loss(0, 9, 0, 0, 100).loss(1, 30, 1, 0, 200).loss(2, 800, 2, 0, 300).loss(3, 830, 1, 0, 400).loss(4, 831, 1, 0, 70)
            .set(OWN, 10).due(0, "share", 20).due(1, "stop", 5, 15);
    }

    private static void eachEventOfItsYear() {
        Run t = fourEvents("year: a YEAR, nth: an EVENT of it");
        int[][] events = {{0, 0}, {0, 1}, {2, 0}, {2, 1}};
        String[] whys = {"100>100>90>90>90>90=10+80=2+3+5", "200>200>190>190>190>190=20+170=4+12+4", "300>300>290>290>290>290=31+259=6+15+10",
            "470>470>460>460>460>460=49+411=9+0+40"};
        for (int i = 0; i < 4; i++) {
            int year = events[i][0];
            int nth = events[i][1];
            String[] parts = whys[i].split("[>=+]");
            t.due(whys[i], "why", year, nth).due(Integer.valueOf(parts[0]), "event", year, nth, WHOLE).due(Integer.valueOf(parts[5]), "event", year, nth, DUE)
                .due(Integer.valueOf(parts[6]), "part", year, nth, 0).due(Integer.valueOf(parts[7]), "part", year, nth, 1)
                .due(Integer.valueOf(parts[8]), "taken", year, nth, 0).due(Integer.valueOf(parts[9]), "taken", year, nth, 1)
                .due(Integer.valueOf(parts[10]), "event", year, nth, NET).due(i, "event", year, nth, 0).due(i == 3 ? 2 : 1, "event", year, nth, 1);
        }
        t.due(30, "paidBy", 0, 0).due(250, "paidBy", 1, 0).due(80, "paidBy", 0, 2).due(670, "paidBy", 1, 2).due(6, "ofContract", 0, 0, 0).due(15, "ofContract", 1, 0, 0)
            .due(15, "ofContract", 0, 2, 0).due(15, "ofContract", 1, 2, 0).due("2:1:0.40", "worst");
    }

    private static void worst() {
        of("of several the first one by YEARS, then by numbers").due("", "worst").loss(0, 400, 0, 0, 7).due("1:0:0.07", "worst").loss(1, 420, 0, 0, 7).due("1:0:0.07", "worst")
            .loss(2, 9, 0, 0, 7).due("0:0:0.07", "worst").loss(3, 1400, 0, 0, 8).due("3:0:0.08", "worst").loss(4, 430, 0, 0, 9).due("1:2:0.09", "worst");
        of("its NET as money: NETS of 0").loss(0, 400, 0, 0, 7).set(OWN, 7).due("1:0:0.00", "worst").loss(1, 9, 0, 0, 7).due("0:0:0.00", "worst");
        of("\"\" without EVENTS").loss(0, 9, 0, 0, 0).due("", "worst").loss(1, 9, 0, 0, 99999).due("0:0:999.99", "worst");
    }

    private static void ofYear() {
        of("1 BORNE .. 4 what CONTRACTS took").sums(100, 30).due(0, "way", 1).loss(0, 9, 0, 0, 65).loss(1, 30, 0, 0, 14).loss(2, 40, 0, 0, 0).set(EVENT_BOUND, 52).due(0, "share", 20)
            .due(79, "ofYear", 0, 0).due(13, "ofYear", 0, 1).due(66, "ofYear", 0, 2).due(41, "ofYear", 0, 3).due(10, "ofYear", 0, 4).due(0, "ofYear", 0, 5)
            .eachEvent(OWED, 52, 14);
    }

    private static void house() {
        Run t = of("9 the set of INSURERS that FAILED").sums(5, 5, 5, 5).due(0, "house", 9).due(0, "fail", 3, true).due(8, "house", 9).due(0, "fail", 0, true).due(9, "house", 9);
        t.due(0, "fail", 1, true).due(0, "fail", 2, true).due(15, "house", 9).due(1, "fail", 0, false).due(14, "house", 9).due(0, "fail", 0, false).due(14, "house", 9);
        of("7 LOSSES that COUNT, 8 EVENTS of all YEARS").set(SPAN, 0).due(0, "house", 7).due(0, "house", 8).loss(0, 0, 0, 0, 5).loss(1, 0, 0, 0, 5).loss(2, 1459, 0, 0, 5)
            .loss(3, 729, 0, 0, 0).loss(4, 730, 2, 0, 1).due(4, "house", 7).due(3, "house", 8);
    }

    private static void sound() {
        of("isSound(): empty").due(true, "isSound");
        Run t = of("isSound(): a full tower").sums(90, 70, 50, 30).due(0, "way", 2).due(0, "fail", 2, true).set(OWN, 10).set(0, 2).set(2, 150).set(YEAR_OWN, 100).set(5, 300)
            .set(EVENT_BOUND, 250).due(0, "layer", 10, 20, 1, 9).due(1, "layer", 30, 40, 9, 9).due(2, "share", 33).due(3, "stop", 5, 50).due(4, "layer", 1, 5, 0, 9)
            .due(5, "share", 99).due(0, "rule", 2);
        for (int i = 0; i < 12; i++) {
            t.loss(i, 365 * (i % 2) + 2 * i, 0, i % 3, 31 * i + 5).due(0, "recover", i, 7 * i).due(true, "isSound");
        }
    }

    /** Each sentence of isSound() where what it goes through comes to its bound. */
    private static void soundAtBounds() {
        of("isSound(): each PARTING that holds, of more EVENTS than one").loss(0, 9, 0, 0, 50).loss(1, 10, 0, 0, 40).loss(2, 14, 0, 0, 30).loss(3, 20, 0, 0, 60).loss(4, 22, 0, 0, 7)
            .set(OWN, 20).due("0 1|2|3 4", "parting", 0, 0).due(true, "isSound").set(EVENT_BOUND, 60).due(true, "isSound").loss(5, 372, 0, 0, 90).loss(6, 373, 0, 0, 5)
            .due(true, "isSound");
        of("isSound(): the other way round, with a KIND BOUND that is used up").loss(0, 9, 0, 0, 50).loss(1, 20, 0, 0, 40).loss(2, 30, 0, 1, 30).set(5, 60).set(YEAR_OWN, 80)
            .due(10, "ofYear", 0, 2).due(true, "isSound").set(YEAR_OWN, 90).due(true, "isSound").set(YEAR_OWN, 91).due(1, "ofYear", 0, 9).due(true, "isSound");
        of("isSound(): PARTS as great as the SUMS, LAYERS that are used up").sums(30, 20).loss(0, 9, 0, 0, 50).loss(1, 20, 0, 0, 51).due(0, "layer", 0, 10, 0, 0)
            .due(1, "layer", 10, 20, 9, 0).due(0, "ofContract", 0, 0, 2).due(true, "isSound").due(0, "fail", 0, true).due(true, "isSound").due(0, "recover", 0, 70).due(true, "isSound");
    }

    /** The checksum, put together as the document tells it, from what one asks for. */
    private static long digestOf(Run t) {
        Digest d = new Digest(t);
        d.mix(10, "house").mix(13, "number");
        int losses = d.number("house", 0);
        int insurers = d.number("house", 1);
        int contracts = d.number("house", 2);
        for (int i = 0; i < losses; i++) {
            d.mix(8, "ofLoss", i);
        }
        for (int year = 0; year < 4; year++) {
            d.mix(10, "ofYear", year);
            for (int place = 0; place < 3; place++) {
                d.mixOne("partings", year, place).mixOne("parting", year, place);
            }
            for (int nth = 0; nth < d.number("events", year); nth++) {
                d.mix(11, "event", year, nth).mix(insurers - 1, "part", year, nth).mix(contracts - 1, "taken", year, nth).mixOne("why", year, nth);
            }
            for (int contract = 0; contract < contracts; contract++) {
                d.mix(2, "ofContract", contract, year);
            }
            d.mix(3, "cum", year).mixOne("ultimate", year);
        }
        d.mix(2, "growth").mixOne("worst").mix(contracts - 1, "contract").mixOne("isSound");
        return d.sum;
    }

    private static final class Digest {
        private final Run t;
        private long sum = 6506;

        Digest(Run t) {
            this.t = t;
        }

        int number(String name, Object... arguments) {
            return (Integer) t.asked(name, arguments);
        }

        Digest mixOne(String name, Object... arguments) {
            Object v = t.asked(name, arguments);
            long number = v instanceof String ? ((String) v).length() : v instanceof Boolean ? ((Boolean) v ? 1 : 0) : (Integer) v;
            sum = sum * 31 + number;
            return this;
        }

        /** With a last argument of 0 to the greatest one. */
        Digest mix(int greatest, String name, Object... arguments) {
            for (int last = 0; last <= greatest; last++) {
                Object[] all = java.util.Arrays.copyOf(arguments, arguments.length + 1);
                all[arguments.length] = last;
                mixOne(name, all);
            }
            return this;
        }
    }

    private static void digest() {
        Run empty = of("which wraps around as a 64-bit integer: an empty tower");
        empty.due(digestOf(empty), "digest").due(-1479702987025091728L, "digest");
        Run t = of("which wraps around as a 64-bit integer").sums(90, 70, 50, 30).loss(0, 9, 0, 0, 500).loss(1, 400, 1, 2, 70).due(2, "report", 0, 800, 433).due(0, "share", 33)
            .due(1, "layer", 10, 20, 1, 9).due(2, "stop", 3, 4).set(WAIT, 3).set(BASE, 999).due(0, "fail", 1, true).due(0, "recover", 0, 77).due(1, "knock").due(0, "way", 3);
        t.due(digestOf(t), "digest");
        Run four = fourEvents("which wraps around as a 64-bit integer: two EVENTS in each of two YEARS");
        four.due(digestOf(four), "digest");
        Run bare = of("which wraps around as a 64-bit integer: with what does not COUNT").loss(0, 1200, 0, 0, 0).loss(1, 9, 2, 1, 10).loss(2, 13, 2, 1, 10).due(1459, "today", 900);
        bare.due(digestOf(bare), "digest").due(0, "way", 2).due(digestOf(bare), "digest");
    }
}
