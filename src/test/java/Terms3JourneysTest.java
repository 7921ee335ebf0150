/** A test for each sentence of Terms 3: journeys. All but a few are of the card 0, on the day 5. */
public final class Terms3JourneysTest {
    private static final String PART = "Terms 3";
    private static final Sentences S = new Sentences("Terms3JourneysTest", PART);
    private static final int DAY = 5;
    private static final int KNOWN = 0;
    private static final int BEGINNING = 1;
    private static final int END = 2;

    public static void main(String[] args) {
        tapsOfThePersonAndTheDay();
        byMinutes();
        inOpens();
        inIsPassedOver();
        inEndsTheOpenLeg();
        outEnds();
        outIsPassedOver();
        outByItself();
        openAtLast();
        guessOfLegsWithoutAGuess();
        guessOfThisPersonEarlier();
        guessBySameSideMostOften();
        guessOfSeveral();
        guessWithoutAny();
        lineOfALeg();
        minuteOfAGuess();
        rowOfLegs();
        zonesTouched();
        fareOfTheDay();
        topOfAJourney();
        S.end();
    }

    private static void in(TapCap x, int stop, int minute) {
        x.tap(0, stop, 0, true, DAY, minute);
    }

    private static void out(TapCap x, int stop, int minute) {
        x.tap(0, stop, 0, false, DAY, minute);
    }

    private static void legs(TapCap x, int want) {
        S.due("legs", x.ofDay(0, DAY, 1), want);
    }

    /** The leg k has these: from, to, begin, end, and which side is a guess. */
    private static void leg(TapCap x, int k, int from, int to, int begin, int end, int guess) {
        int[] want = {from, to, begin, end};
        for (int what = 0; what < want.length; what++) {
            S.due("ofLeg(0, 5, " + k + ", " + what + ")", x.ofLeg(0, DAY, k, what), want[what]);
        }
        S.due("the guess of the leg " + k, x.ofLeg(0, DAY, k, 5), guess);
    }

    private static void tapsOfThePersonAndTheDay() {
        S.says(PART, "Of a PERSON and a DAY: all TAPS of the CARDS of the PERSON on that DAY,");
        TapCap x = Rides.withCards(4);
        S.due("nothing came yet", x.ofDay(0, DAY, 0), 0);
        legs(x, 0);
        x.tie(3, 0);
        x.tie(2, 1);
        in(x, 3, 100);
        x.tap(1, 4, 0, false, DAY, 105);
        x.tap(2, 5, 0, false, DAY, 105);
        x.tap(0, 6, 0, false, DAY - 1, 105);
        x.tap(0, 7, 0, false, DAY + 1, 105);
        S.due("taps of the person 0", x.ofDay(0, DAY, 0), 1);
        leg(x, 0, 3, 3, 100, 100, END);
        x.tap(3, 8, 0, false, DAY, 110);
        S.due("with a tap of the card 3", x.ofDay(0, DAY, 0), 2);
        leg(x, 0, 3, 8, 100, 110, KNOWN);
        x.tap(0, 8, 0, false, DAY, 111);
        S.due("one that is passed over is there", x.ofDay(0, DAY, 0), 3);
        S.due("taps of the person 1", x.ofDay(1, DAY, 0), 2);
    }

    private static void byMinutes() {
        S.says(PART, "by minutes, of the same minute as they came.");
        TapCap x = Rides.withCards(2);
        x.tie(1, 0);
        out(x, 9, 1439);
        in(x, 8, 0);
        leg(x, 0, 8, 9, 0, 1439, KNOWN);
        in(x, 1, 500);
        x.tap(1, 2, 0, false, DAY, 500);
        legs(x, 3);
        leg(x, 1, 1, 2, 500, 500, KNOWN);
        TapCap y = Rides.withCards(2);
        y.tie(1, 0);
        y.tap(1, 2, 0, false, DAY, 500);
        in(y, 1, 500);
        leg(y, 0, 2, 2, 500, 500, BEGINNING);
        leg(y, 1, 1, 1, 500, 500, END);
        TapCap z = Rides.withCards(1);
        in(z, 1, 300);
        in(z, 2, 300);
        in(z, 3, 300);
        in(z, 0, 299);
        for (int k = 0; k < 4; k++) {
            S.due("as they came: " + k, z.ofLeg(0, DAY, k, 0), k);
        }
    }

    private static void inOpens() {
        S.says(PART, "From the first one on: an IN, while none is open, opens a LEG;");
        TapCap x = Rides.withCards(1);
        in(x, 3, 0);
        legs(x, 1);
        out(x, 3, 0);
        in(x, 3, 1);
        legs(x, 2);
        leg(x, 0, 3, 3, 0, 0, KNOWN);
        leg(x, 1, 3, 3, 1, 1, END);
        TapCap y = Rides.withCards(1);
        out(y, 3, 10);
        in(y, 3, 11);
        legs(y, 2);
        leg(y, 1, 3, 3, 11, 11, END);
    }

    private static void inIsPassedOver() {
        S.says(PART, "an IN, while one is open: if it is at the same STOP, and 3 minutes or less behind the IN that "
                + "opened it, it is passed over;");
        for (int behind = 0; behind <= 5; behind++) {
            TapCap x = Rides.withCards(2);
            x.tie(1, 0);
            in(x, 3, 100);
            x.tap(0, 3, 1, true, DAY, 100 + behind);
            S.due("legs, " + behind + " minutes behind", x.ofDay(0, DAY, 1), behind <= 3 ? 1 : 2);
            TapCap y = Rides.withCards(2);
            y.tie(1, 0);
            in(y, 3, 100);
            y.tap(1, 3, 0, true, DAY, 100 + behind);
            S.due("legs, of another card, " + behind + " behind", y.ofDay(0, DAY, 1), behind <= 3 ? 1 : 2);
        }
        TapCap z = Rides.withCards(1);
        in(z, 3, 100);
        in(z, 3, 102);
        in(z, 3, 103);
        legs(z, 1);
        in(z, 3, 104);
        legs(z, 2);
        out(z, 4, 120);
        leg(z, 0, 3, 3, 100, 100, END);
        leg(z, 1, 3, 4, 104, 120, KNOWN);
    }

    private static void inEndsTheOpenLeg() {
        S.says(PART, "otherwise the open LEG ends by GUESS, and another one is opened.");
        TapCap x = Rides.withCards(1);
        Rides.ride(x, 0, 3, 9, 0, DAY - 1, 100);
        in(x, 3, 100);
        in(x, 3, 104);
        legs(x, 2);
        leg(x, 0, 3, 9, 100, 100, END);
        leg(x, 1, 3, 9, 104, 104, END);
        in(x, 4, 104);
        in(x, 3, 105);
        legs(x, 4);
        leg(x, 1, 3, 9, 104, 104, END);
        leg(x, 2, 4, 4, 104, 104, END);
        out(x, 6, 106);
        legs(x, 4);
        leg(x, 3, 3, 6, 105, 106, KNOWN);
        S.due("legs with a guess", x.ofDay(0, DAY, 3), 3);
    }

    private static void outEnds() {
        S.says(PART, "An OUT, while a LEG is open, ends it;");
        int[][] outs = {{3, 0}, {3, 1}, {4, 0}, {4, 3}, {3, 1439}, {4, 1439}};
        for (int[] one : outs) {
            TapCap x = Rides.withCards(1);
            in(x, 3, 0);
            x.tap(0, one[0], 5, false, DAY, one[1]);
            legs(x, 1);
            leg(x, 0, 3, one[0], 0, one[1], KNOWN);
        }
        TapCap y = Rides.withCards(1);
        in(y, 1, 100);
        out(y, 2, 110);
        in(y, 2, 111);
        out(y, 2, 112);
        legs(y, 2);
        leg(y, 1, 2, 2, 111, 112, KNOWN);
    }

    private static void outIsPassedOver() {
        S.says(PART, "one without an open LEG is passed over, if it is 3 minutes or less behind the OUT of the last "
                + "LEG (also if that is a LEG by itself), at the same STOP;");
        for (int behind = 0; behind <= 5; behind++) {
            TapCap x = Rides.withCards(1);
            in(x, 1, 90);
            out(x, 2, 100);
            x.tap(0, 2, 1, false, DAY, 100 + behind);
            S.due("legs, " + behind + " minutes behind", x.ofDay(0, DAY, 1), behind <= 3 ? 1 : 2);
            TapCap y = Rides.withCards(1);
            out(y, 2, 100);
            y.tap(0, 2, 1, false, DAY, 100 + behind);
            S.due("legs, " + behind + " behind one by itself", y.ofDay(0, DAY, 1), behind <= 3 ? 1 : 2);
            TapCap z = Rides.withCards(1);
            out(z, 2, 100);
            out(z, 3, 100 + behind);
            S.due("legs, at another stop", z.ofDay(0, DAY, 1), 2);
        }
        outBehindOnesPassedOver();
        TapCap w = Rides.withCards(1);
        w.tap(0, 2, 0, false, DAY - 1, 1439);
        out(w, 2, 0);
        legs(w, 1);
        out(w, 3, 1);
        out(w, 2, 2);
        legs(w, 3);
    }

    private static void outBehindOnesPassedOver() {
        TapCap x = Rides.withCards(1);
        out(x, 2, 100);
        out(x, 2, 102);
        out(x, 2, 103);
        legs(x, 1);
        out(x, 2, 104);
        legs(x, 2);
        out(x, 2, 107);
        legs(x, 2);
        out(x, 2, 108);
        legs(x, 3);
        leg(x, 0, 2, 2, 100, 100, BEGINNING);
        leg(x, 1, 2, 2, 104, 104, BEGINNING);
        leg(x, 2, 2, 2, 108, 108, BEGINNING);
    }

    private static void outByItself() {
        S.says(PART, "otherwise it is a LEG by itself, whose beginning is a GUESS.");
        TapCap x = Rides.withCards(1);
        Rides.ride(x, 0, 9, 3, 0, DAY - 1, 100);
        out(x, 3, 0);
        out(x, 3, 4);
        out(x, 4, 5);
        legs(x, 3);
        leg(x, 0, 9, 3, 0, 0, BEGINNING);
        leg(x, 1, 9, 3, 4, 4, BEGINNING);
        leg(x, 2, 4, 4, 5, 5, BEGINNING);
        S.due("legs with a guess", x.ofDay(0, DAY, 3), 3);
    }

    private static void openAtLast() {
        S.says(PART, "A LEG that is open at last ends by GUESS.");
        TapCap x = Rides.withCards(1);
        Rides.ride(x, 0, 3, 9, 0, DAY - 1, 100);
        in(x, 3, 1439);
        x.tap(0, 3, 0, false, DAY + 1, 0);
        legs(x, 1);
        leg(x, 0, 3, 9, 1439, 1439, END);
        S.due("the out of the next day is by itself", x.ofLeg(0, DAY + 1, 0, 5), BEGINNING);
        x.tap(0, 3, 0, true, 27, 1439);
        S.due("on the last day", x.ofLeg(0, 27, 0, 5), END);
        S.due("on the last day it goes to", x.ofLeg(0, 27, 0, 1), 9);
    }

    private static void guessOfLegsWithoutAGuess() {
        S.says(PART, "A GUESS is of the other STOP of a LEG: the STOP that, in all LEGS without a GUESS");
        TapCap x = Rides.withCards(1);
        x.tap(0, 3, 0, true, 0, 100);
        x.tap(0, 3, 0, true, 0, 200);
        Rides.ride(x, 0, 3, 9, 0, 1, 100);
        in(x, 3, 100);
        leg(x, 0, 3, 9, 100, 100, END);
        for (int i = 4; i < 8; i++) {
            x.tap(0, 9, 0, false, 1, 100 * i);
        }
        Rides.ride(x, 0, 4, 9, 0, 2, 100);
        Rides.ride(x, 0, 4, 9, 0, 2, 200);
        out(x, 9, 50);
        leg(x, 0, 4, 9, 50, 50, BEGINNING);
        leg(x, 1, 3, 9, 100, 100, END);
    }

    private static void guessOfThisPersonEarlier() {
        S.says(PART, "of this PERSON on earlier DAYS (of any WEEK)");
        for (int day = 0; day < 28; day++) {
            TapCap x = Rides.withCards(3);
            x.tie(2, 0);
            Rides.ride(x, 2, 3, 9, 0, day, 100);
            Rides.ride(x, 1, 4, 8, 0, day, 100);
            for (int other = 0; other < 28; other++) {
                S.due("guess of the day " + other + " from " + day, x.guess(0, other, 3, true), other > day ? 9 : 3);
            }
            S.due("by the other person", x.guess(0, 27, 4, true), 4);
            S.due("of the other person", x.guess(1, 27, 3, true), 3);
            x.tap(0, 3, 0, true, 27, 1000);
            int last = x.ofDay(0, 27, 1) - 1;
            S.due("a leg of the last day", x.ofLeg(0, 27, last, 1), day < 27 ? 9 : 3);
        }
    }

    private static void guessBySameSideMostOften() {
        S.says(PART, "that have the STOP that is known at the same side (beginning or end), is the other one most "
                + "often;");
        TapCap x = Rides.withCards(1);
        Rides.ride(x, 0, 3, 9, 0, 0, 100);
        Rides.ride(x, 0, 3, 9, 0, 1, 100);
        Rides.ride(x, 0, 3, 1, 0, 2, 100);
        Rides.ride(x, 0, 7, 3, 0, 2, 200);
        Rides.ride(x, 0, 7, 3, 0, 2, 300);
        Rides.ride(x, 0, 7, 3, 0, 2, 400);
        Rides.ride(x, 0, 2, 3, 0, 2, 500);
        in(x, 3, 100);
        leg(x, 0, 3, 9, 100, 100, END);
        in(x, 4, 200);
        out(x, 4, 201);
        out(x, 3, 300);
        leg(x, 2, 7, 3, 300, 300, BEGINNING);
        Rides.ride(x, 0, 3, 3, 0, 3, 100);
        Rides.ride(x, 0, 3, 3, 0, 3, 200);
        Rides.ride(x, 0, 3, 3, 0, 3, 300);
        leg(x, 0, 3, 3, 100, 100, END);
        leg(x, 2, 3, 3, 300, 300, BEGINNING);
    }

    private static void guessOfSeveral() {
        S.says(PART, "of several the smallest number;");
        int[][] orders = {{9, 4, 6}, {4, 6, 9}, {6, 9, 4}, {9, 6, 0}, {0, 9, 8}, {3, 9, 8}};
        int[] smallest = {4, 4, 4, 0, 0, 3};
        for (int i = 0; i < orders.length; i++) {
            TapCap x = Rides.withCards(1);
            for (int k = 0; k < 3; k++) {
                Rides.ride(x, 0, 3, orders[i][k], 0, k, 100);
                Rides.ride(x, 0, orders[i][k], 5, 0, k, 300);
            }
            in(x, 3, 100);
            leg(x, 0, 3, smallest[i], 100, 100, END);
            in(x, 8, 200);
            out(x, 8, 201);
            out(x, 5, 300);
            leg(x, 2, smallest[i], 5, 300, 300, BEGINNING);
        }
    }

    private static void guessWithoutAny() {
        S.says(PART, "without any the STOP itself.");
        for (int stop = 0; stop <= 9; stop++) {
            TapCap x = Rides.withCards(1);
            int other = stop == 0 ? 1 : 0;
            Rides.ride(x, 0, other, stop, 0, 0, 100);
            in(x, stop, 100);
            leg(x, 0, stop, stop, 100, 100, END);
            TapCap y = Rides.withCards(1);
            Rides.ride(y, 0, stop, other, 0, 0, 100);
            out(y, stop, 100);
            leg(y, 0, stop, stop, 100, 100, BEGINNING);
        }
    }

    private static void lineOfALeg() {
        S.says(PART, "A LEG has the LINE of its IN (of its OUT, if there is none);");
        TapCap x = Rides.withCards(1);
        x.tap(0, 1, 5, true, DAY, 100);
        x.tap(0, 1, 4, true, DAY, 101);
        x.tap(0, 2, 3, false, DAY, 110);
        x.tap(0, 2, 2, false, DAY, 200);
        x.tap(0, 2, 1, false, DAY, 201);
        x.tap(0, 2, 4, true, DAY, 300);
        int[] want = {5, 2, 4};
        for (int k = 0; k < want.length; k++) {
            S.due("line of the leg " + k, x.ofLeg(0, DAY, k, 4), want[k]);
        }
    }

    private static void minuteOfAGuess() {
        S.says(PART, "a side that is a GUESS has the minute of the other side.");
        TapCap x = Rides.withCards(1);
        Rides.ride(x, 0, 3, 9, 0, 0, 100);
        out(x, 9, 0);
        in(x, 3, 7);
        in(x, 3, 1000);
        in(x, 3, 1439);
        leg(x, 0, 3, 9, 0, 0, BEGINNING);
        leg(x, 1, 3, 9, 7, 7, END);
        leg(x, 2, 3, 9, 1000, 1000, END);
        leg(x, 3, 3, 9, 1439, 1439, END);
    }

    private static void rowOfLegs() {
        S.says(PART, "A JOURNEY is a row of LEGS of which each one (but the first) begins 20 minutes or less behind "
                + "the end of the one ahead of it.");
        int[] behind = {0, 1, 20, 21, 22};
        for (int minutes : behind) {
            int want = minutes <= 20 ? 1 : 2;
            TapCap x = Rides.withCards(1);
            Rides.ride(x, 0, 0, 1, 0, DAY, 100);
            Rides.ride(x, 0, 2, 3, 0, DAY, 115 + minutes);
            S.due("journeys, " + minutes + " minutes behind", x.ofDay(0, DAY, 2), want);
            S.due("the journey of the second leg", x.ofLeg(0, DAY, 1, 6), want - 1);
            S.due("legs of the first journey", x.ofJourney(0, DAY, 0, 0), 3 - want);
            TapCap y = Rides.withCards(1);
            in(y, 0, 100);
            in(y, 1, 100 + minutes);
            S.due("journeys behind an end by guess", y.ofDay(0, DAY, 2), want);
            TapCap z = Rides.withCards(1);
            out(z, 0, 100);
            out(z, 1, 100 + minutes);
            S.due("journeys of outs by themselves", z.ofDay(0, DAY, 2), want);
        }
        TapCap w = Rides.withCards(1);
        for (int i = 0; i < 5; i++) {
            Rides.ride(w, 0, 0, 1, 0, DAY, 100 + 35 * i);
        }
        w.tap(0, 0, 0, true, DAY - 1, 1439);
        w.tap(0, 0, 0, true, DAY, 0);
        S.due("behind the one ahead, not the first: legs", w.ofJourney(0, DAY, 1, 0), 5);
        S.due("each day by itself: journeys", w.ofDay(0, DAY, 2), 2);
        S.due("and on the day ahead", w.ofDay(0, DAY - 1, 2), 1);
        S.due("without legs none", w.ofDay(0, DAY + 1, 2), 0);
    }

    private static void zonesTouched() {
        S.says(PART, "It touches as many ZONES as the greatest ZONE of its STOPS (both of all its LEGS) less the "
                + "smallest one, and 1.");
        int[][] rides = {{3, 0, 1, 1}, {0, 3, 1, 1}, {1, 1, 3, 0}, {1, 1, 0, 3}, {1, 2, 2, 1}, {3, 3, 3, 3},
            {2, 3, 3, 2}, {0, 1, 2, 3}, {0, 0, 0, 0}, {3, 2, 2, 2}};
        int[] want = {4, 4, 4, 4, 2, 1, 2, 4, 1, 2};
        for (int i = 0; i < rides.length; i++) {
            TapCap x = Rides.withZones();
            Rides.ride(x, 0, rides[i][0], rides[i][1], 0, DAY, 100);
            Rides.ride(x, 0, rides[i][2], rides[i][3], 0, DAY, 120);
            S.due("zones touched by the rides " + i, x.ofJourney(0, DAY, 0, 1), want[i]);
        }
        TapCap y = Rides.withZones();
        Rides.ride(y, 0, 0, 3, 0, 0, 100);
        in(y, 0, 100);
        S.due("with a stop that is a guess", y.ofJourney(0, DAY, 0, 1), 4);
    }

    private static void fareOfTheDay() {
        S.says(PART, "Its FARE is that of the TARIFF of the DAY;");
        TapCap x = Rides.withZones();
        for (int day = 4; day <= 6; day++) {
            Rides.ride(x, 0, 0, 3, 0, day, 100);
        }
        x.tariff(5, 9, 5, 50, 200);
        x.tariff(6, 1, 0, 50, 200);
        S.due("the day ahead", x.ofJourney(0, 4, 0, 3), 5);
        S.due("the day", x.ofJourney(0, 5, 0, 3), 24);
        S.due("the day behind", x.ofJourney(0, 6, 0, 3), 1);
    }

    private static void topOfAJourney() {
        S.says(PART, "its TOP is its greatest ZONE.");
        for (int place = 0; place < 4; place++) {
            for (int zone = 0; zone < 4; zone++) {
                int[] stops = {0, 0, 0, 0};
                stops[place] = zone;
                TapCap x = Rides.withZones();
                Rides.ride(x, 0, stops[0], stops[1], 0, DAY, 100);
                Rides.ride(x, 0, stops[2], stops[3], 0, DAY, 120);
                S.due("top with the zone " + (zone + 1) + " at " + place, x.ofJourney(0, DAY, 0, 2), zone + 1);
            }
        }
        TapCap y = Rides.withZones();
        Rides.ride(y, 0, 3, 2, 0, DAY, 100);
        S.due("not how many it touches", y.ofJourney(0, DAY, 0, 2), 4);
    }
}
