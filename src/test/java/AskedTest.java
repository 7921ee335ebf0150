/** Promises 14 to 22: what one asks. */
public final class AskedTest {
    private static final Dues DUES = new Dues("AskedTest");

    public static void main(String[] args) {
        ofCard();
        ofDayCounts();
        ofDayCosts();
        ofDayTickets();
        ofDayRefused();
        ofLeg();
        ofLegInsPassedOver();
        ofLegOutsPassedOver();
        ofLegByMinutes();
        ofLegGuesses();
        ofLegGuessIsTheMostOften();
        ofLegRefused();
        ofJourney();
        ofJourneyChanges();
        ofJourneyRefused();
        ofWeek();
        ofWeekWithDayTickets();
        ofWeekOfSeveral();
        ofWeekRefused();
        share();
        shareBesideOtherDays();
        shareOfWeightsOfNothing();
        shareRefused();
        check();
        checkRefused();
        many();
        meanFare();
        DUES.end();
    }

    private static void legIs(TapCap x, int day, int k, int... want) {
        for (int what = 0; what < want.length; what++) {
            DUES.due("ofLeg(0, " + day + ", " + k + ", " + what + ")", x.ofLeg(0, day, k, what), want[what]);
        }
    }

    private static void ofCard() {
        TapCap x = Rides.withCards(3);
        x.tie(2, 1);
        x.lose(0, true);
        x.pay(1, 100);
        for (int week = 0; week < 4; week++) {
            Rides.shortRides(x, 2, 7 * week, week + 1);
        }
        Rides.close(x, 28);
        int[] ofTwo = {0, 1, 0, 20, 0, 0, 0, 0};
        int[] ofOne = {100 - 2 - 4 - 5 - 5, 1, 0, 0, 2, 4, 5, 5};
        int[] ofNone = {0, 0, 1, 0, 0, 0, 0, 0};
        for (int what = 0; what <= 7; what++) {
            DUES.due("ofCard(0, " + what + ")", x.ofCard(0, what), ofNone[what]);
            DUES.due("ofCard(1, " + what + ")", x.ofCard(1, what), ofOne[what]);
            DUES.due("ofCard(2, " + what + ")", x.ofCard(2, what), ofTwo[what]);
        }
        DUES.refuses(x, "ofCard(3, 0)", Rides.INDEX, () -> x.ofCard(3, 0));
        DUES.refuses(x, "ofCard(-1, 0)", Rides.INDEX, () -> x.ofCard(-1, 0));
        DUES.refuses(x, "ofCard(3, 8)", Rides.INDEX, () -> x.ofCard(3, 8));
        DUES.refuses(x, "ofCard(0, 8)", Rides.ARGUMENT, () -> x.ofCard(0, 8));
        DUES.refuses(x, "ofCard(0, -1)", Rides.ARGUMENT, () -> x.ofCard(0, -1));
    }

    private static void ofDayCounts() {
        TapCap x = Rides.withZones();
        x.tie(1, 0);
        x.tap(1, 5, 0, true, 4, 500);
        x.tap(0, 5, 0, true, 4, 503);
        x.tap(0, 6, 0, false, 4, 520);
        x.tap(1, 6, 0, true, 4, 540);
        x.tap(0, 6, 0, true, 4, 600);
        x.tap(0, 6, 0, true, 5, 600);
        int[] want = {5, 3, 2, 2, 4, 4, 0, 4};
        for (int what = 0; what <= 7; what++) {
            DUES.due("ofDay(0, 4, " + what + ")", x.ofDay(0, 4, what), want[what]);
            DUES.due("ofDay(0, 3, " + what + ")", x.ofDay(0, 3, what), 0);
        }
        DUES.due("the first leg with a guess", x.ofDay(0, 5, 3), 1);
        Rides.ride(x, 0, 5, 6, 0, 6, 100);
        DUES.due("none with a guess", x.ofDay(0, 6, 3), 0);
    }

    private static void ofDayCosts() {
        TapCap x = Rides.withZones();
        Rides.ride(x, 0, 0, 2, 0, 0, 100);
        Rides.ride(x, 0, 2, 0, 0, 0, 200);
        DUES.due("fares of 4 and 4", x.ofDay(0, 0, 4), 8);
        DUES.due("without a ticket: that for 3 is 9", x.ofDay(0, 0, 6), 0);
        DUES.due("it costs 8", x.ofDay(0, 0, 5), 8);
        Rides.ride(x, 0, 0, 0, 0, 0, 300);
        DUES.due("the ticket for 3 is 9, the fares are 10", x.ofDay(0, 0, 6), 3);
        DUES.due("it costs 9", x.ofDay(0, 0, 5), 9);
        Rides.ride(x, 0, 0, 3, 0, 0, 400);
        DUES.due("the ticket for 4 is 11", x.ofDay(0, 0, 6), 4);
        DUES.due("it costs 11", x.ofDay(0, 0, 5), 11);
    }

    private static void ofDayTickets() {
        TapCap x = Rides.withZones();
        Rides.shortRides(x, 0, 0, 4);
        Rides.ride(x, 0, 0, 3, 0, 0, 900);
        DUES.due("the ticket for 1 and a fare of 5", x.ofDay(0, 0, 5), 10);
        DUES.due("the ticket for 1", x.ofDay(0, 0, 6), 1);
        TapCap y = Rides.withZones();
        y.tariff(0, 2, 0, 4, 200);
        Rides.shortRides(y, 0, 0, 2);
        DUES.due("fares of 4, all tickets for 4: none", y.ofDay(0, 0, 6), 0);
        Rides.ride(y, 0, 0, 1, 0, 0, 900);
        DUES.due("the ticket for 1 and a fare, or that for 2", y.ofDay(0, 0, 5), 4);
        DUES.due("the ticket for 2 is good for all", y.ofDay(0, 0, 6), 2);
        TapCap z = Rides.withZones();
        z.tariff(0, 2, 1, 3, 200);
        Rides.shortRides(z, 0, 0, 2);
        Rides.ride(z, 0, 1, 1, 0, 0, 900);
        DUES.due("3 and a fare of 2, or 5", z.ofDay(0, 0, 5), 5);
        DUES.due("of several tickets the smallest z", z.ofDay(0, 0, 6), 1);
    }

    private static void ofDayRefused() {
        TapCap x = Rides.withCards(2);
        x.tie(1, 0);
        DUES.refuses(x, "ofDay(1, 0, 0): no person", Rides.INDEX, () -> x.ofDay(1, 0, 0));
        DUES.refuses(x, "ofDay(2, 0, 0)", Rides.INDEX, () -> x.ofDay(2, 0, 0));
        DUES.refuses(x, "ofDay(-1, 0, 0)", Rides.INDEX, () -> x.ofDay(-1, 0, 0));
        DUES.refuses(x, "ofDay(0, -1, 0)", Rides.INDEX, () -> x.ofDay(0, -1, 0));
        DUES.refuses(x, "ofDay(0, 28, 8)", Rides.INDEX, () -> x.ofDay(0, 28, 8));
        DUES.refuses(x, "ofDay(0, 0, 8)", Rides.ARGUMENT, () -> x.ofDay(0, 0, 8));
        DUES.refuses(x, "ofDay(0, 0, -1)", Rides.ARGUMENT, () -> x.ofDay(0, 0, -1));
        DUES.due("ofDay(0, 27, 7)", x.ofDay(0, 27, 7), 0);
    }

    private static void ofLeg() {
        TapCap x = Rides.withCards(1);
        x.tap(0, 3, 4, true, 1, 700);
        x.tap(0, 5, 2, false, 1, 730);
        legIs(x, 1, 0, 3, 5, 700, 730, 4, 0, 0);
        x.tap(0, 7, 1, false, 1, 760);
        legIs(x, 1, 1, 7, 7, 760, 760, 1, 1, 1);
        x.tap(0, 8, 3, true, 1, 770);
        legIs(x, 1, 2, 8, 8, 770, 770, 3, 2, 1);
        x.tap(0, 9, 5, true, 1, 771);
        legIs(x, 1, 2, 8, 8, 770, 770, 3, 2, 1);
        legIs(x, 1, 3, 9, 9, 771, 771, 5, 2, 1);
        x.tap(0, 0, 0, true, 2, 0);
        DUES.due("a leg open at last is not ended on the next day", x.ofDay(0, 2, 1), 1);
    }

    private static void ofLegInsPassedOver() {
        TapCap x = Rides.withCards(1);
        x.tap(0, 3, 0, true, 0, 100);
        x.tap(0, 3, 1, true, 0, 103);
        DUES.due("3 minutes behind: passed over", x.ofDay(0, 0, 1), 1);
        x.tap(0, 3, 2, true, 0, 104);
        DUES.due("4 behind the one that opened it: another leg", x.ofDay(0, 0, 1), 2);
        x.tap(0, 4, 2, true, 0, 105);
        DUES.due("at another stop: another leg", x.ofDay(0, 0, 1), 3);
        x.tap(0, 4, 0, false, 0, 105);
        x.tap(0, 4, 0, true, 0, 106);
        DUES.due("none is open: another leg", x.ofDay(0, 0, 1), 4);
        legIs(x, 0, 0, 3, 3, 100, 100, 0, 2);
        legIs(x, 0, 1, 3, 3, 104, 104, 2, 2);
        legIs(x, 0, 2, 4, 4, 105, 105, 2, 0);
        legIs(x, 0, 3, 4, 4, 106, 106, 0, 2);
    }

    private static void ofLegOutsPassedOver() {
        TapCap x = Rides.withCards(1);
        x.tap(0, 1, 0, true, 0, 100);
        x.tap(0, 2, 0, false, 0, 110);
        x.tap(0, 2, 0, false, 0, 113);
        DUES.due("3 minutes behind: passed over", x.ofDay(0, 0, 1), 1);
        x.tap(0, 2, 0, false, 0, 114);
        DUES.due("4 behind the out of the leg: a leg by itself", x.ofDay(0, 0, 1), 2);
        x.tap(0, 2, 0, false, 0, 117);
        DUES.due("3 behind the leg by itself: passed over", x.ofDay(0, 0, 1), 2);
        x.tap(0, 3, 0, false, 0, 117);
        DUES.due("at another stop: a leg by itself", x.ofDay(0, 0, 1), 3);
        x.tap(0, 3, 0, false, 1, 0);
        DUES.due("the first one of another day", x.ofDay(0, 1, 1), 1);
        DUES.due("all taps count", x.ofDay(0, 0, 0), 6);
    }

    private static void ofLegByMinutes() {
        TapCap x = Rides.withCards(2);
        x.tie(1, 0);
        x.tap(1, 4, 1, false, 0, 300);
        x.tap(0, 3, 0, true, 0, 290);
        legIs(x, 0, 0, 3, 4, 290, 300, 0, 0);
        x.tap(0, 6, 2, true, 0, 300);
        legIs(x, 0, 1, 6, 6, 300, 300, 2, 2);
        x.tap(0, 7, 3, false, 0, 300);
        legIs(x, 0, 1, 6, 7, 300, 300, 2, 0);
        x.tap(0, 8, 4, false, 0, 0);
        legIs(x, 0, 0, 8, 8, 0, 0, 4, 1);
        DUES.due("legs", x.ofDay(0, 0, 1), 3);
    }

    private static void ofLegGuesses() {
        TapCap x = Rides.withCards(2);
        Rides.ride(x, 1, 3, 9, 0, 0, 100);
        x.tap(0, 3, 0, true, 20, 100);
        x.tap(0, 5, 0, false, 20, 200);
        x.tap(0, 3, 0, true, 20, 300);
        x.tap(0, 5, 0, false, 21, 100);
        x.tap(0, 5, 0, true, 21, 200);
        DUES.due("of the same day nothing is guessed", x.ofLeg(0, 20, 1, 1), 3);
        legIs(x, 21, 0, 3, 5, 100, 100, 0, 1, 0);
        legIs(x, 21, 1, 5, 5, 200, 200, 0, 2, 1);
        Rides.ride(x, 0, 5, 8, 0, 0, 100);
        DUES.due("of an earlier week", x.ofLeg(0, 21, 1, 1), 8);
        DUES.due("the end does not count for the beginning", x.ofLeg(0, 21, 0, 0), 3);
        Rides.ride(x, 0, 5, 1, 0, 22, 100);
        DUES.due("a later day does not count", x.ofLeg(0, 21, 1, 1), 8);
        x.tie(1, 0);
        DUES.due("3 to 9 and 3 to 5: the smaller one", x.guess(0, 27, 3, true), 5);
    }

    private static void ofLegGuessIsTheMostOften() {
        TapCap x = Rides.withCards(1);
        Rides.ride(x, 0, 2, 1, 0, 0, 100);
        Rides.ride(x, 0, 2, 7, 0, 0, 200);
        x.tap(0, 2, 0, true, 3, 100);
        DUES.due("of several the smallest", x.ofLeg(0, 3, 0, 1), 1);
        Rides.ride(x, 0, 2, 7, 0, 1, 200);
        DUES.due("the one most often", x.ofLeg(0, 3, 0, 1), 7);
        x.tap(0, 2, 0, true, 4, 100);
        x.tap(0, 2, 0, true, 5, 100);
        Rides.ride(x, 0, 2, 1, 0, 5, 200);
        x.tap(0, 2, 0, true, 6, 100);
        DUES.due("what was guessed is no leg without a guess", x.ofLeg(0, 6, 0, 1), 1);
    }

    private static void ofLegRefused() {
        TapCap x = Rides.withCards(2);
        Rides.shortRides(x, 0, 3, 2);
        Rides.shortRides(x, 0, 4, 1);
        x.tie(1, 0);
        DUES.due("ofLeg(0, 3, 1, 6)", x.ofLeg(0, 3, 1, 6), 1);
        DUES.refuses(x, "ofLeg(1, 3, 0, 0): no person", Rides.INDEX, () -> x.ofLeg(1, 3, 0, 0));
        DUES.refuses(x, "ofLeg(2, 3, 0, 0)", Rides.INDEX, () -> x.ofLeg(2, 3, 0, 0));
        DUES.refuses(x, "ofLeg(0, -1, 0, 0)", Rides.INDEX, () -> x.ofLeg(0, -1, 0, 0));
        DUES.refuses(x, "ofLeg(0, 28, 0, 0)", Rides.INDEX, () -> x.ofLeg(0, 28, 0, 0));
        DUES.refuses(x, "ofLeg(0, 3, -1, 0)", Rides.INDEX, () -> x.ofLeg(0, 3, -1, 0));
        DUES.refuses(x, "ofLeg(0, 3, 2, 0)", Rides.INDEX, () -> x.ofLeg(0, 3, 2, 0));
        DUES.refuses(x, "ofLeg(0, 2, 0, 0)", Rides.INDEX, () -> x.ofLeg(0, 2, 0, 0));
        DUES.refuses(x, "ofLeg(0, 3, 2, 7): the leg first", Rides.INDEX, () -> x.ofLeg(0, 3, 2, 7));
        DUES.refuses(x, "ofLeg(0, 3, 0, 7)", Rides.ARGUMENT, () -> x.ofLeg(0, 3, 0, 7));
        DUES.refuses(x, "ofLeg(0, 3, 0, -1)", Rides.ARGUMENT, () -> x.ofLeg(0, 3, 0, -1));
    }

    private static void journeyIs(TapCap x, int day, int k, int... want) {
        for (int what = 0; what < want.length; what++) {
            DUES.due("ofJourney(0, " + day + ", " + k + ", " + what + ")", x.ofJourney(0, day, k, what), want[what]);
        }
    }

    private static void ofJourney() {
        TapCap x = Rides.withZones();
        Rides.ride(x, 0, 1, 2, 0, 6, 100);
        journeyIs(x, 6, 0, 1, 2, 3, 3);
        Rides.ride(x, 0, 2, 3, 0, 6, 120);
        journeyIs(x, 6, 0, 2, 3, 4, 4);
        Rides.ride(x, 0, 0, 1, 0, 6, 140);
        journeyIs(x, 6, 0, 3, 4, 4, 5);
        Rides.ride(x, 0, 3, 3, 0, 6, 300);
        journeyIs(x, 6, 0, 3, 4, 4, 5);
        journeyIs(x, 6, 1, 1, 1, 4, 2);
        x.tariff(6, 7, 4, 9, 9);
        journeyIs(x, 6, 0, 3, 4, 4, 19);
        journeyIs(x, 6, 1, 1, 1, 4, 7);
    }

    private static void ofJourneyChanges() {
        TapCap x = Rides.withCards(1);
        Rides.ride(x, 0, 0, 0, 0, 0, 100);
        Rides.ride(x, 0, 0, 0, 0, 0, 135);
        DUES.due("20 minutes behind the end: one journey", x.ofDay(0, 0, 2), 1);
        Rides.ride(x, 0, 0, 0, 0, 0, 171);
        DUES.due("21 minutes behind: another one", x.ofDay(0, 0, 2), 2);
        x.tap(0, 0, 0, false, 0, 206);
        DUES.due("a leg by itself begins with its out", x.ofDay(0, 0, 2), 2);
        x.tap(0, 0, 0, true, 0, 226);
        DUES.due("20 behind it", x.ofDay(0, 0, 2), 2);
        x.tap(0, 1, 0, true, 0, 247);
        DUES.due("an open leg ends as it begins", x.ofDay(0, 0, 2), 3);
        Rides.ride(x, 0, 0, 0, 0, 1, 0);
        DUES.due("each day by itself", x.ofDay(0, 1, 2), 1);
        DUES.due("its first leg is of its first journey", x.ofLeg(0, 1, 0, 6), 0);
        DUES.due("the last leg of the day ahead is of its third", x.ofLeg(0, 0, 5, 6), 2);
    }

    private static void ofJourneyRefused() {
        TapCap x = Rides.withCards(2);
        Rides.shortRides(x, 0, 3, 2);
        Rides.shortRides(x, 0, 4, 1);
        x.tie(1, 0);
        DUES.due("ofJourney(0, 3, 1, 0)", x.ofJourney(0, 3, 1, 0), 1);
        DUES.refuses(x, "ofJourney(1, 3, 0, 0): no person", Rides.INDEX, () -> x.ofJourney(1, 3, 0, 0));
        DUES.refuses(x, "ofJourney(2, 3, 0, 0)", Rides.INDEX, () -> x.ofJourney(2, 3, 0, 0));
        DUES.refuses(x, "ofJourney(0, -1, 0, 0)", Rides.INDEX, () -> x.ofJourney(0, -1, 0, 0));
        DUES.refuses(x, "ofJourney(0, 28, 0, 0)", Rides.INDEX, () -> x.ofJourney(0, 28, 0, 0));
        DUES.refuses(x, "ofJourney(0, 3, -1, 0)", Rides.INDEX, () -> x.ofJourney(0, 3, -1, 0));
        DUES.refuses(x, "ofJourney(0, 3, 2, 0)", Rides.INDEX, () -> x.ofJourney(0, 3, 2, 0));
        DUES.refuses(x, "ofJourney(0, 3, 2, 4): the journey first", Rides.INDEX, () -> x.ofJourney(0, 3, 2, 4));
        DUES.refuses(x, "ofJourney(0, 3, 0, 4)", Rides.ARGUMENT, () -> x.ofJourney(0, 3, 0, 4));
        DUES.refuses(x, "ofJourney(0, 3, 0, -1)", Rides.ARGUMENT, () -> x.ofJourney(0, 3, 0, -1));
    }

    private static void ofWeek() {
        TapCap x = Rides.withCards(1);
        for (int day = 7; day < 11; day++) {
            Rides.shortRides(x, 0, day, 3);
        }
        DUES.due("four day tickets for 5", x.ofWeek(0, 1, 0), 20);
        DUES.due("of several the one without a ticket", x.ofWeek(0, 1, 1), 0);
        Rides.shortRides(x, 0, 13, 1);
        DUES.due("the week ticket", x.ofWeek(0, 1, 0), 20);
        DUES.due("for 1", x.ofWeek(0, 1, 1), 1);
        DUES.due("all days by themselves", x.ofWeek(0, 1, 2), 22);
        DUES.due("a day within it", x.ofDay(0, 7, 7), 0);
        DUES.due("a day by itself", x.ofDay(0, 7, 5), 5);
        for (int what = 0; what <= 2; what++) {
            DUES.due("the week 0", x.ofWeek(0, 0, what), 0);
            DUES.due("the week 2", x.ofWeek(0, 2, what), 0);
        }
        x.tariff(8, 9, 0, 50, 1);
        DUES.due("a tariff of its second day", x.ofWeek(0, 1, 0), 20);
        x.tariff(7, 9, 0, 50, 1);
        DUES.due("a tariff of its first day", x.ofWeek(0, 1, 0), 1);
    }

    private static void ofWeekWithDayTickets() {
        TapCap x = Rides.withZones();
        x.tariff(0, 9, 1, 9, 10);
        for (int day = 0; day < 3; day++) {
            Rides.shortRides(x, 0, day, 1);
        }
        Rides.ride(x, 0, 0, 2, 0, 2, 500);
        Rides.ride(x, 0, 2, 0, 0, 2, 600);
        DUES.due("the days: 9, 9 and 13", x.ofWeek(0, 0, 2), 31);
        DUES.due("the week ticket for 1 and the day ticket for 3", x.ofWeek(0, 0, 0), 23);
        DUES.due("for 1", x.ofWeek(0, 0, 1), 1);
        DUES.due("the day 0 within it", x.ofDay(0, 0, 7), 0);
        DUES.due("the day 2 within it", x.ofDay(0, 2, 7), 13);
    }

    private static void ofWeekOfSeveral() {
        TapCap x = Rides.withZones();
        x.tariff(0, 4, 1, 50, 4);
        Rides.shortRides(x, 0, 0, 2);
        Rides.ride(x, 0, 1, 1, 0, 1, 100);
        Rides.ride(x, 0, 1, 1, 0, 2, 100);
        DUES.due("4 for 1 and two fares of 4, or 12 for 2", x.ofWeek(0, 0, 0), 12);
        DUES.due("the smallest z", x.ofWeek(0, 0, 1), 1);
        Rides.ride(x, 0, 1, 1, 0, 3, 100);
        DUES.due("12 for 2", x.ofWeek(0, 0, 0), 12);
        DUES.due("for 2", x.ofWeek(0, 0, 1), 2);
        Rides.ride(x, 0, 3, 3, 0, 4, 100);
        Rides.ride(x, 0, 3, 3, 0, 4, 200);
        Rides.ride(x, 0, 3, 3, 0, 4, 300);
        Rides.ride(x, 0, 3, 3, 0, 4, 400);
        Rides.ride(x, 0, 3, 3, 0, 4, 500);
        DUES.due("28 for 4", x.ofWeek(0, 0, 0), 28);
        DUES.due("for 4", x.ofWeek(0, 0, 1), 4);
    }

    private static void ofWeekRefused() {
        TapCap x = Rides.withCards(2);
        x.tie(1, 0);
        DUES.refuses(x, "ofWeek(1, 0, 0): no person", Rides.INDEX, () -> x.ofWeek(1, 0, 0));
        DUES.refuses(x, "ofWeek(2, 0, 0)", Rides.INDEX, () -> x.ofWeek(2, 0, 0));
        DUES.refuses(x, "ofWeek(0, -1, 0)", Rides.INDEX, () -> x.ofWeek(0, -1, 0));
        DUES.refuses(x, "ofWeek(0, 4, 3)", Rides.INDEX, () -> x.ofWeek(0, 4, 3));
        DUES.refuses(x, "ofWeek(0, 0, 3)", Rides.ARGUMENT, () -> x.ofWeek(0, 0, 3));
        DUES.refuses(x, "ofWeek(0, 0, -1)", Rides.ARGUMENT, () -> x.ofWeek(0, 0, -1));
    }

    private static void sharesAre(TapCap x, int day, int... want) {
        for (int carrier = 0; carrier < 3; carrier++) {
            DUES.due("share(" + carrier + ", 0, " + day + ")", x.share(carrier, 0, day), want[carrier]);
        }
    }

    private static void share() {
        TapCap x = Rides.withZones();
        x.carrier(1, 1);
        x.carrier(2, 2);
        sharesAre(x, 0, 0, 0, 0);
        // Fares 5 (of the lines 1, 1 and 2: weights 3 and 1), and 2 (of the line 0); the day costs 7.
        Rides.ride(x, 0, 0, 3, 1, 0, 100);
        Rides.ride(x, 0, 3, 0, 1, 0, 120);
        Rides.ride(x, 0, 0, 0, 2, 0, 140);
        Rides.ride(x, 0, 0, 0, 0, 0, 300);
        DUES.due("the day costs", x.ofDay(0, 0, 5), 7);
        // 7 * 2 / 6 is 2, 7 * 3 / 6 is 3, 7 * 1 / 6 is 1, and 1 is left over for the line 1.
        sharesAre(x, 0, 2, 4, 1);
        x.carrier(1, 0);
        // Weights 3 + 2 and 1: 5 and 1, and 1 left over.
        sharesAre(x, 0, 6, 0, 1);
        x.carrier(1, 1);
        x.tariff(0, 2, 1, 1, 200);
        // The ticket for 4 costs 1 + 6 = 7, that for 1 costs 1 and the fare of 5: 6 by the same weights.
        DUES.due("the day costs less", x.ofDay(0, 0, 5), 6);
        sharesAre(x, 0, 2, 3, 1);
        sharesAre(x, 1, 0, 0, 0);
        Rides.ride(x, 0, 0, 0, 1, 2, 300);
        sharesAre(x, 2, 0, 1, 0);
        // The ticket for 1 costs 1, of which both parts are 0: it is left over for the first leg's line.
        Rides.ride(x, 0, 0, 0, 2, 1, 300);
        Rides.ride(x, 0, 0, 0, 0, 1, 200);
        sharesAre(x, 1, 1, 0, 0);
    }

    private static void shareBesideOtherDays() {
        TapCap x = Rides.withCards(1);
        x.carrier(1, 1);
        x.carrier(2, 2);
        x.tariff(0, 9, 0, 50, 200);
        Rides.ride(x, 0, 0, 0, 0, 4, 100);
        Rides.ride(x, 0, 0, 0, 1, 5, 100);
        Rides.ride(x, 0, 0, 0, 2, 5, 200);
        Rides.ride(x, 0, 0, 0, 0, 6, 100);
        sharesAre(x, 4, 9, 0, 0);
        sharesAre(x, 5, 0, 9, 9);
        sharesAre(x, 6, 9, 0, 0);
    }

    private static void shareOfWeightsOfNothing() {
        TapCap x = Rides.withCards(1);
        x.tariff(0, 1, 0, 50, 200);
        x.carrier(1, 1);
        x.carrier(2, 2);
        Rides.ride(x, 0, 0, 0, 2, 0, 100);
        Rides.ride(x, 0, 0, 0, 1, 0, 120);
        sharesAre(x, 0, 0, 0, 1);
        Rides.ride(x, 0, 0, 0, 0, 0, 300);
        sharesAre(x, 0, 2, 0, 0);
    }

    private static void shareRefused() {
        TapCap x = Rides.withCards(2);
        x.tie(1, 0);
        DUES.refuses(x, "share(-1, 0, 0)", Rides.INDEX, () -> x.share(-1, 0, 0));
        DUES.refuses(x, "share(3, 0, 0)", Rides.INDEX, () -> x.share(3, 0, 0));
        DUES.refuses(x, "share(0, 1, 0): no person", Rides.INDEX, () -> x.share(0, 1, 0));
        DUES.refuses(x, "share(0, 2, 0)", Rides.INDEX, () -> x.share(0, 2, 0));
        DUES.refuses(x, "share(0, 0, -1)", Rides.INDEX, () -> x.share(0, 0, -1));
        DUES.refuses(x, "share(0, 0, 28)", Rides.INDEX, () -> x.share(0, 0, 28));
    }

    private static void check() {
        TapCap x = Rides.withCards(2);
        x.tie(1, 0);
        Rides.ride(x, 0, 3, 4, 0, 0, 100);
        DUES.due("ahead of it", x.check(0, 0, 99), 0);
        DUES.due("as it begins", x.check(0, 0, 100), 1);
        DUES.due("by the other card of the person", x.check(1, 0, 110), 1);
        DUES.due("as it ends", x.check(0, 0, 115), 1);
        DUES.due("behind it", x.check(0, 0, 116), 0);
        DUES.due("on another day", x.check(0, 1, 110), 0);
        Rides.ride(x, 0, 3, 4, 0, 1, 0);
        DUES.due("on another day with a leg", x.check(0, 1, 110), 0);
        DUES.due("in the minute 0", x.check(0, 1, 0), 1);
        x.tap(0, 3, 0, true, 0, 500);
        DUES.due("open, ahead", x.check(0, 0, 499), 0);
        DUES.due("open, 120 minutes behind", x.check(0, 0, 620), 1);
        DUES.due("open, 121 minutes behind", x.check(0, 0, 621), 0);
        x.tap(0, 5, 0, true, 0, 510);
        DUES.due("ended by a guess, but the next one is open", x.check(0, 0, 630), 1);
        x.tap(0, 5, 0, false, 0, 520);
        DUES.due("ended by a guess: still 120 minutes", x.check(0, 0, 620), 1);
        x.tap(0, 6, 0, false, 0, 800);
        DUES.due("its beginning is a guess", x.check(0, 0, 800), 0);
        x.lose(1, true);
        DUES.due("lost", x.check(1, 0, 5), 2);
        DUES.due("the other card is not lost", x.check(0, 0, 110), 1);
    }

    private static void checkRefused() {
        TapCap x = Rides.withCards(1);
        DUES.refuses(x, "check(1, 0, 0)", Rides.INDEX, () -> x.check(1, 0, 0));
        DUES.refuses(x, "check(-1, 0, 0)", Rides.INDEX, () -> x.check(-1, 0, 0));
        DUES.refuses(x, "check(0, -1, 0)", Rides.INDEX, () -> x.check(0, -1, 0));
        DUES.refuses(x, "check(0, 28, 1440)", Rides.INDEX, () -> x.check(0, 28, 1440));
        x.lose(0, true);
        DUES.refuses(x, "check(0, 0, 1440)", Rides.ARGUMENT, () -> x.check(0, 0, 1440));
        DUES.refuses(x, "check(0, 0, -1)", Rides.ARGUMENT, () -> x.check(0, 0, -1));
        DUES.due("check(0, 27, 1439)", x.check(0, 27, 1439), 2);
    }

    private static void many() {
        TapCap x = Rides.withCards(3);
        Rides.shortRides(x, 0, 0, 2);
        Rides.shortRides(x, 1, 0, 1);
        x.tap(0, 0, 0, true, 0, 0);
        x.lose(2, true);
        x.tap(2, 0, 0, true, 0, 0);
        x.tap(2, 0, 0, true, 0, 0);
        x.tariff(5, 1, 1, 1, 1);
        x.late(0, 0, 99);
        x.refund(1, 0, 0);
        x.pay(2, 40);
        Rides.close(x, 4);
        int[] want = {3, 6, 2, 1, 4, 2, 40 + 1 - 6, 6, 1};
        for (int what = 0; what <= 8; what++) {
            DUES.due("many(" + what + ")", x.many(what), want[what]);
        }
        DUES.refuses(x, "many(9)", Rides.ARGUMENT, () -> x.many(9));
        DUES.refuses(x, "many(-1)", Rides.ARGUMENT, () -> x.many(-1));
    }

    private static void meanFare() {
        TapCap x = Rides.withZones();
        DUES.due("without any", x.meanFare(5), 0);
        Rides.ride(x, 0, 0, 3, 0, 5, 100);
        DUES.due("of one", x.meanFare(5), 5);
        Rides.ride(x, 0, 0, 0, 0, 5, 200);
        DUES.due("of 5 and 2", x.meanFare(5), 3.5);
        Rides.ride(x, 1, 0, 1, 0, 5, 100);
        DUES.due("of 5, 2 and the other's 3", x.meanFare(5), 10.0 / 3);
        x.tie(1, 0);
        DUES.due("of one person: the second out is a leg of the first journey", x.meanFare(5), 3.5);
        DUES.due("on another day", x.meanFare(6), 0);
        DUES.refuses(x, "meanFare(-1)", Rides.INDEX, () -> x.meanFare(-1));
        DUES.refuses(x, "meanFare(28)", Rides.INDEX, () -> x.meanFare(28));
    }
}
