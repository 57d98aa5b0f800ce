/** LOSSES, POLICY and EVENTS (sections 1 and 2 of the document), at the edges that its sentences name. */
public final class EdgesOfEventsTest {
    private static final int OWN_MODE = 0;
    private static final int OWN = 1;
    private static final int LINE = 2;
    private static final int YEAR_OWN = 3;
    private static final int EVENT_BOUND = 4;
    private static final int KIND_BOUND = 5;
    private static final int YEAR_BOUND = 8;
    private static final int WAIT = 9;
    private static final int INSURED = 10;
    private static final int VALUE = 11;
    private static final int SPAN = 12;

    private static final int FIRST = 0;
    private static final int SIZE = 1;
    private static final int GROSS = 2;
    private static final int PAID = 3;
    private static final int KEPT = 4;
    private static final int OFF = 5;
    private static final int OWED = 6;
    private static final int WHOLE = 7;
    private static final int RECOVERED = 8;
    private static final int DUE = 9;
    private static final int PLACE = 11;

    private EdgesOfEventsTest() {
    }

    public static void main(String[] args) {
        years();
        sumAtADay();
        sumOfToday();
        backCounts();
        waiting();
        insuredAndValue();
        counts();
        order();
        span();
        nextToEachOther();
        yearsAndPlacesPart();
        eachYearAndPlace();
        ownMode0();
        ownMode1();
        ownMode2();
        eventBound();
        greatestPaid();
        fewestEvents();
        mostLossesFirst();
        howManyPartings();
        twelveInOne();
        bestAndWorst();
        numbersOfEvents();
        kindOfFirstLoss();
        kindBound();
        yearOwn();
        yearBound();
        yearsBeginAnew();
        whatIsLeft();
        recoveredAndWhole();
        rule0();
        rule1();
        rule2();
        splitForRule2();
        emptyTower();
        lateEdges();
        Calls.end("edges of events");
    }

    private static Run of(String sentence) {
        return Run.of(sentence);
    }

    // ---- section 1

    private static void years() {
        Run t = of("YEAR of a DAY: DAY / 365 (0 to 3)");
        int[] days = {0, 364, 365, 729, 730, 1094, 1095, 1459};
        for (int i = 0; i < days.length; i++) {
            t.loss(i, days[i], 0, 0, 10 + i).due(i / 2, "ofLoss", i, 7);
        }
        for (int year = 0; year < 4; year++) {
            t.due(2, "events", year).due(2 * year, "event", year, 0, FIRST).due(2 * year + 1, "event", year, 1, FIRST).due(21 + 4 * year, "ofYear", year, 0);
        }
    }

    private static void sumAtADay() {
        of("that of the last REPORT whose KNOWN day is that day or less; 0 without one").due(0, "loss", 0, 0, 0, 5, 1).due(2, "report", 0, 20, 9)
            .due(3, "report", 0, 21, 0).due(4, "report", 0, 1459, 99999).due(0, "sumAt", 0, 0).due(5, "sumAt", 0, 1).due(5, "sumAt", 0, 19)
            .due(9, "sumAt", 0, 20).due(0, "sumAt", 0, 21).due(0, "sumAt", 0, 1458).due(99999, "sumAt", 0, 1459);
        of("SUM at a day: known on the first and on the last day").due(0, "loss", 0, 0, 0, 5, 0).due(1, "loss", 0, 0, 0, 6, 1459).due(5, "sumAt", 0, 0)
            .due(0, "sumAt", 1, 0).due(0, "sumAt", 1, 1458).due(6, "sumAt", 1, 1459);
        of("SUM at a day: TODAY tells nothing of it").due(0, "loss", 9, 0, 0, 5, 9).due(1459, "today", 0).due(5, "sumAt", 0, 9).due(0, "ofLoss", 0, 3);
    }

    private static void sumOfToday() {
        of("SUM without a day is that of TODAY").due(0, "loss", 5, 0, 0, 5, 10).due(2, "report", 0, 20, 9).due(9, "ofLoss", 0, 3).due(9, "event", 0, 0, WHOLE)
            .due(1459, "today", 20).due(9, "ofLoss", 0, 3).due(20, "today", 19).due(5, "ofLoss", 0, 3).due(5, "ofLoss", 0, 4).due(5, "event", 0, 0, WHOLE)
            .due(19, "today", 10).due(5, "ofLoss", 0, 3).due(10, "today", 9).due(0, "ofLoss", 0, 3).due(0, "ofLoss", 0, 4).due(-1, "ofLoss", 0, 8)
            .due(0, "events", 0).due(0, "ofYear", 0, 0).due(2, "ofLoss", 0, 5);
    }

    private static void backCounts() {
        of("it counts up to its SUM").loss(0, 9, 0, 0, 50).due(0, "ofLoss", 0, 6).due(0, "recover", 0, 49).due(49, "ofLoss", 0, 6).due(49, "recover", 0, 50)
            .due(50, "ofLoss", 0, 6).due(50, "recover", 0, 51).due(50, "ofLoss", 0, 6).due(50, "event", 0, 0, RECOVERED).due(50, "ofYear", 0, 5);
        // the SUM is that of TODAY: with another one another part of BACK counts
        of("it counts up to its SUM: of TODAY").loss(0, 9, 0, 0, 50).due(2, "report", 0, 20, 30).due(0, "recover", 0, 40).due(30, "ofLoss", 0, 6)
            .due(30, "event", 0, 0, RECOVERED)
            .due(1459, "today", 19).due(40, "ofLoss", 0, 6).due(40, "event", 0, 0, RECOVERED).due(40, "ofYear", 0, 5).due(19, "today", 8).due(0, "ofLoss", 0, 6).due(0, "ofYear", 0, 5);
    }

    private static void waiting() {
        of("0, if its DAY is below WAIT").loss(0, 100, 0, 0, 50).set(WAIT, 99).due(50, "ofLoss", 0, 4).set(WAIT, 100).due(50, "ofLoss", 0, 4).due(0, "ofLoss", 0, 8)
            .set(WAIT, 101).due(0, "ofLoss", 0, 4).due(-1, "ofLoss", 0, 8).due(50, "ofLoss", 0, 3).due(50, "ofYear", 0, 0);
        of("0, if its DAY is below WAIT: the first and the last day").loss(0, 0, 0, 0, 5).loss(1, 1458, 0, 0, 6).loss(2, 1459, 0, 0, 7).due(5, "ofLoss", 0, 4)
            .set(WAIT, 1459).due(0, "ofLoss", 0, 4).due(0, "ofLoss", 1, 4).due(7, "ofLoss", 2, 4).set(WAIT, 1).due(0, "ofLoss", 0, 4).due(6, "ofLoss", 1, 4);
    }

    private static void insuredAndValue() {
        of("otherwise its SUM, if INSURED is VALUE or more").loss(0, 9, 0, 0, 50).due(50, "ofLoss", 0, 4).set(INSURED, 8).set(VALUE, 7).due(50, "ofLoss", 0, 4)
            .set(VALUE, 8).due(50, "ofLoss", 0, 4).set(VALUE, 9).due(44, "ofLoss", 0, 4).set(INSURED, 99999).due(50, "ofLoss", 0, 4);
        of("or else SUM * INSURED / VALUE: rounded down").loss(0, 9, 0, 0, 101).set(VALUE, 2).due(50, "ofLoss", 0, 4).set(VALUE, 3).due(33, "ofLoss", 0, 4)
            .set(INSURED, 2).due(67, "ofLoss", 0, 4).set(VALUE, 101).due(2, "ofLoss", 0, 4);
        of("Products are as great as they are: COVERED").loss(0, 9, 0, 0, 99999).set(INSURED, 99998).set(VALUE, 99999).due(99998, "ofLoss", 0, 4)
            .set(INSURED, 50000).due(50000, "ofLoss", 0, 4).set(INSURED, 1).due(1, "ofLoss", 0, 4);
        of("it tells each LOSS, not their sum").loss(0, 9, 0, 0, 3).loss(1, 9, 0, 0, 3).set(VALUE, 2).eachEvent(GROSS, 2);
    }

    private static void counts() {
        of("It COUNTS, if that is above 0").loss(0, 9, 0, 0, 3).loss(1, 9, 0, 0, 4).loss(2, 9, 0, 0, 0).due(2, "house", 7).set(VALUE, 4).due(0, "ofLoss", 0, 4)
            .due(1, "ofLoss", 1, 4).due(-1, "ofLoss", 0, 8).due(0, "ofLoss", 1, 8).due(-1, "ofLoss", 2, 8).due(1, "house", 7).due("1", "parting", 0, 0)
            .due(7, "ofYear", 0, 0).due(1, "event", 0, 0, SIZE).due(4, "event", 0, 0, WHOLE).set(VALUE, 5).due(0, "house", 7).due(0, "house", 8)
            .due("", "parting", 0, 0);
        // one that does not COUNT parts nothing, and its BACK is in no EVENT
        of("It COUNTS: not in between").loss(0, 9, 0, 0, 50).loss(1, 10, 0, 0, 0).loss(2, 11, 0, 0, 50).due("0 2", "parting", 0, 0).due(1, "partings", 0, 1)
            .due(2, "partings", 0, 0);
        of("It COUNTS: BACK of the others").loss(0, 9, 0, 0, 50).loss(1, 10, 0, 0, 1).due(0, "recover", 1, 1).set(VALUE, 2).due(0, "event", 0, 0, RECOVERED)
            .due(1, "ofYear", 0, 5).due(50, "event", 0, 0, WHOLE).due(51, "ofYear", 0, 0).due(25, "ofYear", 0, 1);
    }

    // ---- section 2: PARTINGS

    private static void order() {
        of("In ORDER: by DAYS, with the same DAY by numbers").loss(0, 12, 0, 0, 5).loss(1, 11, 0, 0, 5).loss(2, 12, 0, 0, 5).loss(3, 10, 0, 0, 5).loss(4, 11, 0, 0, 5)
            .due("3 1 4 0 2", "parting", 0, 0).set(SPAN, 0).due("3|1 4|0 2", "parting", 0, 0).eachEvent(FIRST, 3, 1, 0);
        Run t = of("In ORDER: 12 of them the other way round").set(SPAN, 30);
        for (int i = 0; i < 12; i++) {
            t.loss(i, 30 - i, 0, 0, 5);
        }
        t.due("11 10 9 8 7 6 5 4 3 2 1 0", "parting", 0, 0);
    }

    private static void span() {
        of("the DAY of its last one is at most SPAN more than that of its first one: 0").loss(0, 9, 0, 0, 5).loss(1, 9, 0, 0, 5).loss(2, 10, 0, 0, 5).set(SPAN, 0)
            .due("0 1|2", "parting", 0, 0).due(2, "partings", 0, 0).set(SPAN, 1).due("0 1 2", "parting", 0, 0).due(4, "partings", 0, 0);
        of("the DAY of its last one is at most SPAN more: 3").loss(0, 9, 0, 0, 5).loss(1, 12, 0, 0, 5).due(2, "partings", 0, 0).due("0 1", "parting", 0, 0)
            .set(SPAN, 2).due(1, "partings", 0, 0).due("0|1", "parting", 0, 0);
        of("the DAY of its last one is at most SPAN more: 30").loss(0, 9, 0, 0, 5).loss(1, 39, 0, 0, 5).loss(2, 70, 0, 0, 5).set(SPAN, 30)
            .due("0 1|2", "parting", 0, 0).due(2, "partings", 0, 0).set(SPAN, 29).due("0|1|2", "parting", 0, 0).due(1, "partings", 0, 0);
        // from the first one, not from the one ahead
        of("the DAY of its last one is at most SPAN more than that of its first one").loss(0, 9, 0, 0, 5).loss(1, 12, 0, 0, 5).loss(2, 15, 0, 0, 5)
            .due("0 1|2", "parting", 0, 0).due(3, "partings", 0, 0);
    }

    private static void nextToEachOther() {
        // 60 with 40 would pay more, but 100 stands in between
        of("each EVENT is some of them next to each other").loss(0, 9, 0, 0, 60).loss(1, 10, 0, 0, 100).loss(2, 11, 0, 0, 40).set(OWN, 10).set(EVENT_BOUND, 100)
            .due(170, "best", 0, 0, false).due("0|1|2", "parting", 0, 0).due(4, "partings", 0, 0);
    }

    private static void yearsAndPlacesPart() {
        of("The LOSSES of a YEAR and a PLACE: the last day of a YEAR").loss(0, 364, 0, 0, 5).loss(1, 365, 0, 0, 5).set(SPAN, 30).due("0", "parting", 0, 0)
            .due("1", "parting", 1, 0).due(1, "events", 0).due(1, "events", 1).due(1, "partings", 0, 0);
        of("The LOSSES of a YEAR and a PLACE: PLACES").loss(0, 9, 0, 0, 5).loss(1, 9, 1, 0, 5).loss(2, 9, 2, 0, 5).loss(3, 9, 0, 0, 5).due("0 3", "parting", 0, 0)
            .due("1", "parting", 0, 1).due("2", "parting", 0, 2).due(3, "events", 0).eachEvent(PLACE, 0, 1, 2);
    }

    private static void eachYearAndPlace() {
        int[][] losses = {{0, 2, 1}, {3, 0, 0}, {1, 0, 0}, {0, 4, 1}};
        Run t = of("year: a YEAR, place: a PLACE").set(OWN, 3);
        int number = 0;
        for (int year = 0; year < 4; year++) {
            for (int place = 0; place < 3; place++) {
                for (int i = 0; i < losses[year][place]; i++) {
                    t.loss(number++, 365 * year + 50, place, 0, 10);
                }
            }
        }
        String[][] partings = {{"", "0 1", "2"}, {"3 4 5", "", ""}, {"6", "", ""}, {"", "7 8 9 10", "11"}};
        for (int year = 0; year < 4; year++) {
            for (int place = 0; place < 3; place++) {
                int count = losses[year][place];
                t.due(partings[year][place], "parting", year, place).due(count == 0 ? 1 : 1 << count - 1, "partings", year, place)
                    .due(count == 0 ? 0 : 10 * count - 3, "best", year, place, false).due(7 * count, "best", year, place, true);
            }
        }
        t.due(2, "events", 0).due(1, "events", 1).due(1, "events", 2).due(2, "events", 3);
    }

    private static void ownMode0() {
        of("with OWN MODE 0 OWN, but at most GROSS").loss(0, 9, 0, 0, 50).eachEvent(PAID, 50).set(OWN, 1).eachEvent(PAID, 49).set(OWN, 49).eachEvent(PAID, 1)
            .set(OWN, 50).eachEvent(PAID, 0).set(OWN, 51).eachEvent(PAID, 0).set(OWN, 99999).eachEvent(PAID, 0).set(LINE, 10).set(OWN, 20).eachEvent(PAID, 30);
    }

    private static void ownMode1() {
        of("1 OWN hundredths of it, rounded up").loss(0, 9, 0, 0, 101).set(OWN_MODE, 1).eachEvent(PAID, 101).set(OWN, 1).eachEvent(PAID, 99).set(OWN, 50)
            .eachEvent(PAID, 50).set(OWN, 99).eachEvent(PAID, 1).due(2, "report", 0, 10, 100).eachEvent(PAID, 1).set(OWN, 50).eachEvent(PAID, 50).set(OWN, 1)
            .eachEvent(PAID, 99).due(3, "report", 0, 11, 1).eachEvent(PAID, 0);
        of("1 OWN hundredths of it, but at most GROSS").loss(0, 9, 0, 0, 50).set(OWN_MODE, 1).set(OWN, 99).eachEvent(PAID, 0).set(OWN, 98).eachEvent(PAID, 1)
            .set(OWN, 100).eachEvent(PAID, 0).set(OWN, 101).eachEvent(PAID, 0).set(OWN, 99999).eachEvent(PAID, 0);
        of("Products are as great as they are: OWN hundredths").loss(0, 9, 0, 0, 50000).set(OWN_MODE, 1).set(OWN, 50000).eachEvent(PAID, 0).set(OWN, 99999)
            .eachEvent(PAID, 0).due(2, "report", 0, 10, 99999).eachEvent(PAID, 0).set(OWN, 99).eachEvent(PAID, 999);
    }

    private static void ownMode2() {
        of("2 the same as with 0, if GROSS is LINE or less, otherwise 0").loss(0, 9, 0, 0, 50).set(OWN_MODE, 2).set(OWN, 20).eachEvent(PAID, 50).set(LINE, 49)
            .eachEvent(PAID, 50).set(LINE, 50).eachEvent(PAID, 30).set(LINE, 51).eachEvent(PAID, 30).set(OWN, 60).eachEvent(PAID, 0).set(LINE, 99999).eachEvent(PAID, 0);
        // both together are above LINE, so that they are one EVENT rather than two
        of("2 the same as with 0: of the GROSS of an EVENT").loss(0, 9, 0, 0, 50).loss(1, 9, 0, 0, 1).set(OWN_MODE, 2).set(OWN, 20).set(LINE, 50).eachEvent(PAID, 51)
            .due(30, "best", 0, 0, true);
    }

    private static void eventBound() {
        of("PAID: but at most EVENT BOUND").loss(0, 9, 0, 0, 50).set(EVENT_BOUND, 51).eachEvent(PAID, 50).set(EVENT_BOUND, 50).eachEvent(PAID, 50).set(EVENT_BOUND, 49)
            .eachEvent(PAID, 49).set(OWN, 1).eachEvent(PAID, 49).set(OWN, 2).eachEvent(PAID, 48).set(EVENT_BOUND, 0).eachEvent(PAID, 0);
    }

    private static void greatestPaid() {
        of("one with the greatest sum of PAID").loss(0, 9, 0, 0, 60).loss(1, 10, 0, 0, 60).set(OWN, 10).set(EVENT_BOUND, 100).due("0 1", "parting", 0, 0)
            .set(EVENT_BOUND, 99).due("0|1", "parting", 0, 0).eachEvent(PAID, 50, 50).due(100, "best", 0, 0, false).due(99, "best", 0, 0, true);
        // two of twelve are told apart by one coin
        of("one with the greatest sum of PAID: by one coin").loss(0, 9, 0, 0, 50).loss(1, 10, 0, 0, 50).loss(2, 11, 0, 0, 50).set(EVENT_BOUND, 100)
            .due("0 1|2", "parting", 0, 0).set(EVENT_BOUND, 101).due("0 1|2", "parting", 0, 0).due(2, "report", 2, 12, 51).due("0 1|2", "parting", 0, 0)
            .due(2, "report", 0, 12, 52).due("0|1 2", "parting", 0, 0);
    }

    private static void fewestEvents() {
        of("of these one with the fewest EVENTS").loss(0, 9, 0, 0, 60).loss(1, 10, 0, 0, 60).loss(2, 11, 0, 0, 60).due("0 1 2", "parting", 0, 0).set(OWN, 99999)
            .due("0 1 2", "parting", 0, 0).due(0, "best", 0, 0, false).set(OWN, 0).set(EVENT_BOUND, 0).due("0 1 2", "parting", 0, 0);
        // 2 and 2 pays as much as 1, 2 and 1, or each one alone
        of("of these one with the fewest EVENTS: not the first one as long as can be").loss(0, 9, 0, 0, 50).loss(1, 10, 0, 0, 50).loss(2, 11, 0, 0, 50).loss(3, 12, 0, 0, 50)
            .set(EVENT_BOUND, 100).due("0 1|2 3", "parting", 0, 0);
        // "0 1|2|3 4|5" pays 54, too
        of("of these one with the fewest EVENTS: ahead of the most LOSSES").loss(0, 9, 0, 0, 10).loss(1, 9, 0, 0, 5).loss(2, 9, 0, 0, 12).loss(3, 9, 0, 0, 7)
            .loss(4, 9, 0, 0, 14).loss(5, 9, 0, 0, 12).set(OWN_MODE, 1).set(OWN, 8).set(EVENT_BOUND, 23).due("0|1 2 3|4 5", "parting", 0, 0).due(54, "best", 0, 0, false)
            .eachEvent(PAID, 9, 22, 23);
    }

    private static void mostLossesFirst() {
        of("of these the one whose first EVENT has the most LOSSES").loss(0, 9, 0, 0, 5).loss(1, 11, 0, 0, 5).loss(2, 13, 0, 0, 5).due("0 1|2", "parting", 0, 0);
        of("then the second one").loss(0, 9, 0, 0, 5).loss(1, 20, 0, 0, 5).loss(2, 22, 0, 0, 5).loss(3, 24, 0, 0, 5).due("0|1 2|3", "parting", 0, 0);
        of("and so on").loss(0, 9, 0, 0, 5).loss(1, 20, 0, 0, 5).loss(2, 30, 0, 0, 5).loss(3, 32, 0, 0, 5).loss(4, 34, 0, 0, 5).due("0|1|2 3|4", "parting", 0, 0);
        of("the most LOSSES: 3 and 1 rather than 2 and 2").loss(0, 9, 0, 0, 5).loss(1, 11, 0, 0, 5).loss(2, 12, 0, 0, 5).loss(3, 14, 0, 0, 5).due("0 1 2|3", "parting", 0, 0);
    }

    private static void howManyPartings() {
        of("how many PARTINGS there can be (1 without LOSSES)").due(1, "partings", 0, 0).due(1, "partings", 3, 2).loss(0, 9, 0, 0, 0).due(1, "partings", 0, 0)
            .loss(1, 9, 0, 0, 1).due(1, "partings", 0, 0).loss(2, 9, 0, 0, 1).due(2, "partings", 0, 0).loss(3, 13, 0, 0, 1).due(2, "partings", 0, 0)
            .loss(4, 13, 0, 0, 1).due(4, "partings", 0, 0).set(SPAN, 4).due(8, "partings", 0, 0).due(1, "partings", 0, 1).due(1, "partings", 1, 0);
    }

    private static void twelveInOne() {
        Run t = of("12 LOSSES in one EVENT").twelveLosses().set(SPAN, 30).due("0 1 2 3 4 5 6 7 8 9 10 11", "parting", 0, 0).due(2048, "partings", 0, 0)
            .eachEvent(SIZE, 12).eachEvent(GROSS, 1200).due(true, "isSound");
        t.set(SPAN, 0).due("0|1|2|3|4|5|6|7|8|9|10|11", "parting", 0, 0).due(1, "partings", 0, 0).eachEvent(FIRST, 0, 1, 2, 3, 4, 5, 6, 7, 8, 9, 10, 11).due(true, "isSound");
        Run rich = of("12 LOSSES of 99999");
        for (int i = 0; i < 12; i++) {
            rich.loss(i, 9, 0, 0, 99999);
        }
        rich.eachEvent(GROSS, 99999, 99999, 99999, 99999, 99999, 99999, 99999, 99999, 99999, 99999, 99999, 99999).due(1199988, "best", 0, 0, false)
            .due(99999, "best", 0, 0, true).due(1199988, "ofYear", 0, 0).set(OWN, 99999).eachEvent(GROSS, 199998, 199998, 199998, 199998, 199998, 199998)
            .due(599994, "best", 0, 0, false).due(0, "best", 0, 0, true);
    }

    private static void bestAndWorst() {
        of("the greatest (least) sum of PAID of all PARTINGS").due(0, "best", 0, 0, false).due(0, "best", 0, 0, true).loss(0, 9, 0, 0, 100).set(OWN, 30)
            .due(70, "best", 0, 0, false).due(70, "best", 0, 0, true).loss(1, 12, 0, 0, 20).due(90, "best", 0, 0, false).due(70, "best", 0, 0, true)
            .loss(2, 16, 0, 0, 50).due(110, "best", 0, 0, false).due(90, "best", 0, 0, true).due(0, "best", 0, 1, false).due(0, "best", 1, 0, true);
        // the least one is that of a PARTING, not of the one with the most or the fewest EVENTS
        of("the least sum of PAID").loss(0, 9, 0, 0, 60).loss(1, 9, 0, 0, 60).loss(2, 9, 0, 0, 10).set(OWN, 20).set(EVENT_BOUND, 90).due(90, "best", 0, 0, false)
            .due(80, "best", 0, 0, true).due("0 1 2", "parting", 0, 0).due(4, "partings", 0, 0);
    }

    // ---- section 2: EVENTS of a YEAR

    private static void numbersOfEvents() {
        of("EVENTS of a YEAR are numbered from 0 by their first LOSSES in ORDER (of all PLACES)").loss(0, 12, 0, 0, 5).loss(1, 9, 2, 0, 5).loss(2, 10, 1, 0, 5)
            .loss(3, 9, 1, 0, 5).loss(4, 12, 2, 0, 5).loss(5, 500, 0, 0, 5).eachEvent(FIRST, 1, 3, 0).eachEvent(SIZE, 2, 2, 1).eachEvent(PLACE, 2, 1, 0)
            .due(2, "ofLoss", 0, 8).due(0, "ofLoss", 1, 8).due(1, "ofLoss", 2, 8).due(1, "ofLoss", 3, 8).due(0, "ofLoss", 4, 8).due(0, "ofLoss", 5, 8)
            .due(1, "events", 1).due(4, "house", 8);
    }

    private static void kindOfFirstLoss() {
        of("KIND of an EVENT is that of its first LOSS").loss(0, 10, 0, 1, 50).loss(1, 9, 0, 2, 50).loss(2, 9, 0, 0, 50).set(KIND_BOUND + 1, 0).set(KIND_BOUND, 0)
            .eachEvent(KEPT, 150).set(KIND_BOUND + 2, 70).eachEvent(KEPT, 70).due(0, "ofYear", 2, 0);
    }

    private static void kindBound() {
        of("PAID, but at most what is left of the KIND BOUND of its KIND").loss(0, 9, 0, 1, 60).loss(1, 20, 0, 0, 60).loss(2, 30, 0, 1, 60).loss(3, 40, 0, 1, 60)
            .set(KIND_BOUND + 1, 180).eachEvent(KEPT, 60, 60, 60, 60).set(KIND_BOUND + 1, 179).eachEvent(KEPT, 60, 60, 60, 59).set(KIND_BOUND + 1, 120)
            .eachEvent(KEPT, 60, 60, 60, 0).set(KIND_BOUND + 1, 61).eachEvent(KEPT, 60, 60, 1, 0).set(KIND_BOUND + 1, 60).eachEvent(KEPT, 60, 60, 0, 0)
            .set(KIND_BOUND + 1, 59).eachEvent(KEPT, 59, 60, 0, 0).set(KIND_BOUND + 1, 0).eachEvent(KEPT, 0, 60, 0, 0).eachEvent(PAID, 60, 60, 60, 60);
        // what is KEPT uses it up, also if it is taken off or beyond the YEAR BOUND then
        of("What is KEPT uses up the KIND BOUND").loss(0, 9, 0, 0, 60).loss(1, 20, 0, 0, 60).set(KIND_BOUND, 100).set(YEAR_OWN, 60).set(YEAR_BOUND, 30)
            .eachEvent(KEPT, 60, 40).eachEvent(OFF, 60, 0).eachEvent(OWED, 0, 30);
        // what is PAID, but not KEPT, does not
        of("What is KEPT uses up the KIND BOUND: by its KIND").loss(0, 9, 0, 0, 60).loss(1, 9, 1, 1, 60).loss(2, 9, 2, 2, 60).set(KIND_BOUND, 10).set(KIND_BOUND + 1, 20)
            .set(KIND_BOUND + 2, 30).eachEvent(KEPT, 10, 20, 30);
    }

    private static void yearOwn() {
        of("of that the YEAR OWN is taken off, as far as it is not used up").loss(0, 9, 0, 0, 60).loss(1, 20, 0, 0, 60).set(YEAR_OWN, 59).eachEvent(OFF, 59, 0)
            .eachEvent(OWED, 1, 60).set(YEAR_OWN, 60).eachEvent(OFF, 60, 0).eachEvent(OWED, 0, 60).set(YEAR_OWN, 61).eachEvent(OFF, 60, 1).eachEvent(OWED, 0, 59)
            .set(YEAR_OWN, 119).eachEvent(OFF, 60, 59).set(YEAR_OWN, 120).eachEvent(OWED, 0, 0).set(YEAR_OWN, 121).eachEvent(OFF, 60, 60).due(1, "ofYear", 0, 9);
        // of what is KEPT, not of what is PAID
        of("of that the YEAR OWN is taken off: of KEPT").loss(0, 9, 0, 0, 60).loss(1, 20, 0, 1, 60).set(KIND_BOUND, 10).set(YEAR_OWN, 30).eachEvent(OFF, 10, 20)
            .eachEvent(OWED, 0, 40);
    }

    private static void yearBound() {
        of("the rest, but at most what is left of the YEAR BOUND, is OWED").loss(0, 9, 0, 0, 60).loss(1, 20, 0, 0, 60).set(YEAR_BOUND, 121).eachEvent(OWED, 60, 60)
            .set(YEAR_BOUND, 120).eachEvent(OWED, 60, 60).set(YEAR_BOUND, 119).eachEvent(OWED, 60, 59).set(YEAR_BOUND, 60).eachEvent(OWED, 60, 0).set(YEAR_BOUND, 59)
            .eachEvent(OWED, 59, 0).set(YEAR_BOUND, 0).eachEvent(OWED, 0, 0).eachEvent(KEPT, 60, 60);
        // what is taken off for the YEAR OWN does not use it up
        of("what is OWED the YEAR BOUND").loss(0, 9, 0, 0, 60).loss(1, 20, 0, 0, 60).set(YEAR_OWN, 50).set(YEAR_BOUND, 70).eachEvent(OWED, 10, 60).due(0, "ofYear", 0, 10)
            .due(0, "recover", 0, 60).eachEvent(DUE, 0, 60).eachEvent(OWED, 10, 60);
    }

    private static void yearsBeginAnew() {
        Run t = of("in that YEAR").set(KIND_BOUND, 50).set(YEAR_OWN, 10).set(YEAR_BOUND, 45);
        for (int year = 0; year < 4; year++) {
            t.loss(year, 365 * year + 5, 0, 0, 60).due(50, "event", year, 0, KEPT).due(10, "event", year, 0, OFF).due(40, "event", year, 0, OWED)
                .due(0, "ofYear", year, 9).due(5, "ofYear", year, 10);
        }
    }

    private static void whatIsLeft() {
        of("what is left of the YEAR OWN, of the YEAR BOUND").set(YEAR_OWN, 70).due(70, "ofYear", 0, 9).due(99999, "ofYear", 0, 10).loss(0, 9, 0, 0, 69).due(1, "ofYear", 0, 9)
            .due(99999, "ofYear", 0, 10).loss(1, 20, 0, 0, 2).due(0, "ofYear", 0, 9).due(99998, "ofYear", 0, 10).due(70, "ofYear", 1, 9).set(YEAR_BOUND, 1)
            .due(0, "ofYear", 0, 10).due(1, "ofYear", 1, 10);
    }

    // ---- section 2: RULES

    private static void recoveredAndWhole() {
        of("RECOVERED: the sum of what counts of BACK of its LOSSES; WHOLE: the sum of SUMS").loss(0, 9, 0, 0, 60).loss(1, 9, 0, 0, 40).loss(2, 20, 0, 0, 7).set(VALUE, 2)
            .due(0, "recover", 0, 99999).due(0, "recover", 1, 39).due(0, "recover", 2, 1).eachEvent(WHOLE, 100, 7).eachEvent(GROSS, 50, 3).eachEvent(RECOVERED, 99, 1);
    }

    private static void rule0() {
        // WHOLE 100, OWED 60: the insured bears 40
        of("0 what is above WHOLE less OWED (0 without)").loss(0, 9, 0, 0, 100).set(OWN, 40).due(0, "recover", 0, 0).eachEvent(DUE, 60).due(0, "recover", 0, 39).eachEvent(DUE, 60)
            .due(39, "recover", 0, 40).eachEvent(DUE, 60).due(40, "recover", 0, 41).eachEvent(DUE, 59).due(41, "recover", 0, 99).eachEvent(DUE, 1)
            .due(99, "recover", 0, 100).eachEvent(DUE, 0).due(100, "recover", 0, 101).eachEvent(DUE, 0);
        of("0 what is above WHOLE less OWED: all OWED, nothing OWED").loss(0, 9, 0, 0, 100).due(0, "recover", 0, 1).eachEvent(DUE, 99).set(OWN, 100).eachEvent(DUE, 0)
            .due(1, "recover", 0, 100).eachEvent(DUE, 0);
    }

    private static void rule1() {
        of("1 as much as OWED, if there is so much").loss(0, 9, 0, 0, 100).set(OWN, 40).due(0, "rule", 1).eachEvent(DUE, 60).due(0, "recover", 0, 1).eachEvent(DUE, 59)
            .due(1, "recover", 0, 59).eachEvent(DUE, 1).due(59, "recover", 0, 60).eachEvent(DUE, 0).due(60, "recover", 0, 61).eachEvent(DUE, 0)
            .due(61, "recover", 0, 100).eachEvent(DUE, 0).due(0, "ofYear", 0, 1);
    }

    private static void rule2() {
        of("2 their part of it SPLIT by WHOLE less OWED, and OWED").loss(0, 9, 0, 0, 100).set(OWN, 40).due(0, "rule", 2).eachEvent(DUE, 60).due(0, "recover", 0, 100)
            .eachEvent(DUE, 0).due(100, "recover", 0, 50).eachEvent(DUE, 30).due(50, "recover", 0, 5).eachEvent(DUE, 57).due(5, "recover", 0, 1).eachEvent(DUE, 59)
            .due(1, "recover", 0, 2).eachEvent(DUE, 59).set(OWN, 100).eachEvent(DUE, 0).set(OWN, 0).eachEvent(DUE, 98);
    }

    private static void splitForRule2() {
        of("the coins that are left go to the greatest rests, of several to the one ahead: RULE 2").loss(0, 9, 0, 0, 100).set(OWN, 50).due(0, "rule", 2)
            .due(0, "recover", 0, 1).eachEvent(DUE, 50).due(1, "recover", 0, 3).eachEvent(DUE, 49).set(OWN, 49).eachEvent(DUE, 49).set(OWN, 51).eachEvent(DUE, 48);
        of("Products are as great as they are: RULE 2").loss(0, 9, 0, 0, 99999).set(OWN, 50000).due(0, "rule", 2).due(0, "recover", 0, 99998).eachEvent(DUE, 0)
            .set(OWN, 1).eachEvent(DUE, 1).set(OWN, 99998).eachEvent(DUE, 0);
        of("2 their part of it: of one coin").loss(0, 9, 0, 0, 1).due(0, "rule", 2).due(0, "recover", 0, 1).eachEvent(DUE, 0).set(OWN, 1).eachEvent(DUE, 0).eachEvent(OWED, 0);
        // only by these two, whatever was SPLIT by the SUMS of three ahead of it
        of("2 their part of it SPLIT by WHOLE less OWED, and OWED: nobody else's").sums(500, 500, 500).due(0, "way", 1).due(0, "rule", 2).set(OWN, 40).loss(0, 9, 0, 0, 100)
            .loss(1, 400, 0, 0, 100).due(0, "recover", 0, 51).due(0, "recover", 1, 51).due(29, "event", 0, 0, DUE).due(29, "event", 1, 0, DUE)
            .loss(2, 420, 0, 0, 100).due(0, "recover", 2, 51).due(29, "event", 1, 1, DUE);
    }

    // ---- empty and late

    private static void emptyTower() {
        Run t = of("without LOSSES").due("", "worst").due(0, "house", 7).due(0, "house", 8).due(true, "isSound");
        for (int year = 0; year < 4; year++) {
            t.due(0, "events", year).due("", "parting", year, 0).due(1, "partings", year, 2).due(0, "best", year, 1, false).due(0, "best", year, 1, true).due(0, "paidBy", 0, year)
                .due(0, "would", year, 99).due("0", "ultimate", year);
            for (int what = 0; what <= 5; what++) {
                t.due(0, "ofYear", year, what);
            }
        }
    }

    private static void lateEdges() {
        of("also if TODAY is below its DAY").due(1459, "today", 0).due(50, "late", 0, 0, 0, 50).due(50, "late", 1459, 2, 2, 50).set(WAIT, 1459).due(50, "late", 1459, 2, 2, 50)
            .due(0, "late", 1458, 2, 2, 50);
        of("KNOWN at TODAY: the others are as of TODAY, too").due(0, "loss", 5, 0, 0, 100, 20).set(OWN, 30).due(1459, "today", 19).due(20, "late", 5, 0, 0, 50)
            .due(19, "today", 20).due(50, "late", 5, 0, 0, 50);
        of("or there are 12").twelveLosses().set(OWN, 30).due(70, "late", 22, 0, 0, 100).due(100, "late", 21, 0, 0, 100).due(100, "late", 10, 0, 0, 100)
            .due(20, "late", 300, 2, 2, 50).set(SPAN, 30).due(99999 - 1170, "late", 9, 0, 0, 99999).due(1, "late", 400, 0, 0, 31).due(12, "house", 0);
        // the thirteenth is an EVENT of its own, as one with others would be above the bound
        of("or there are 12: all in one PLACE").twelveLosses().set(EVENT_BOUND, 100).set(SPAN, 30).due(100, "late", 22, 0, 0, 100).due(99, "late", 9, 0, 0, 99)
            .due(100, "late", 15, 0, 0, 101);
        Run fewest = of("or there are 12: the fewest EVENTS of 13").set(OWN_MODE, 1).set(OWN, 8).set(EVENT_BOUND, 23).set(KIND_BOUND + 1, 0).set(KIND_BOUND + 2, 0);
        for (int i = 0; i < 7; i++) {
            fewest.loss(i, 10 * i, 0, 2, 10);
        }
        fewest.loss(7, 90, 0, 0, 10).loss(8, 90, 0, 1, 5).loss(9, 90, 0, 0, 12).loss(10, 90, 0, 0, 7).loss(11, 90, 0, 0, 14)
            .due("0|1|2|3|4|5|6|7 8|9|10 11", "parting", 0, 0).due(43, "ofYear", 0, 3).due(-11, "late", 90, 0, 0, 12);
        of("behind the others").loss(0, 9, 0, 0, 50).set(KIND_BOUND + 1, 0).due(0, "late", 9, 1, 1, 20).due(20, "late", 9, 0, 1, 20).due(-50, "late", 8, 0, 1, 20);
        of("by how much all NETS of its YEAR would be more (or less)").loss(0, 9, 0, 0, 50).loss(1, 400, 0, 0, 70).set(YEAR_BOUND, 60).due(10, "late", 20, 0, 0, 99999)
            .due(0, "late", 20, 0, 0, 0).due(0, "late", 410, 0, 0, 5).due(60, "late", 800, 0, 0, 99999).due(0, "share", 50).due(5, "late", 20, 0, 0, 99999);
    }
}
