/** A test for each sentence of Terms 5: money. */
public final class Terms5MoneyTest {
    private static final String PART = "Terms 5";
    private static final Sentences S = new Sentences("Terms5MoneyTest", PART);

    public static void main(String[] args) {
        closedInOrder();
        eachPersonIsCharged();
        byTheTapsUpToTheDay();
        lessWhatWasCharged();
        settledUpToTheLastClosedDay();
        settledBelowNothing();
        sharesOfADayByItself();
        weights();
        partOfTheCost();
        leftOver();
        lateByMinutes();
        thirtyMinutesOrMore();
        onceForLineAndDay();
        halfOfEachFare();
        intoThePurse();
        S.end();
    }

    private static void closedInOrder() {
        S.says(PART, "A DAY is CLOSED for all, at most once, the DAYS in order (0 first).");
        for (int closed = 0; closed <= 28; closed++) {
            Stand stand = Stand.GIVEN.times(closed, "close");
            S.answers(stand, Call.of("many", 4), closed);
            if (closed < 28) {
                S.answers(stand, Call.of("tariff", closed, 1, 0, 1, 1), 2);
                S.answers(stand.then("tap", 3, 0, 0, 1, closed, 0), Call.of("close"), 2);
                S.answers(stand.then("tap", 3, 0, 0, 1, 27 - closed, 0), Call.of("close"), 27 - closed > closed
                        || 27 - closed < closed / 7 * 7 ? 0 : 2);
            }
            if (closed > 0) {
                S.answers(stand, Call.of("tariff", closed - 1, 1, 0, 1, 1), "IllegalStateException");
            }
        }
        S.refused(Rides.STATE, Stand.GIVEN.times(28, "close"), "close");
        S.answers(Stand.GIVEN.times(30, "close"), Call.of("many", 4), 28);
    }

    private static void eachPersonIsCharged() {
        S.says(PART, "As it is CLOSED, each PERSON is CHARGED (from the PURSE of the CARD with that number)");
        TapCap x = Rides.withCards(4);
        x.tie(3, 1);
        x.pay(3, 500);
        Rides.ins(x, 0, 0, 0, 1);
        Rides.ins(x, 1, 0, 0, 1);
        Rides.ins(x, 2, 0, 0, 2);
        x.tap(3, 0, 0, true, 0, 500);
        x.lose(2, true);
        S.due("all are charged", x.close(), 2 + 4 + 4);
        int[] purses = {-2, -4, -4, 500};
        int[] charged = {2, 4, 4, 0};
        for (int card = 0; card < 4; card++) {
            S.due("the purse of " + card, x.ofCard(card, 0), purses[card]);
            S.due("charged to " + card, x.ofCard(card, 4), charged[card]);
        }
        S.due("nobody at all", new TapCap().close(), 0);
    }

    private static void byTheTapsUpToTheDay() {
        S.says(PART, "what the WEEK costs by the TAPS that there are now on DAYS of that WEEK up to this one,");
        TapCap x = Rides.withCards(1);
        x.tariff(0, 9, 0, 50, 12);
        for (int day = 0; day < 28; day++) {
            x.tap(0, 0, 0, true, day, 0);
        }
        for (int day = 0; day < 28; day++) {
            int[] due = {9, 3, 0, 0, 0, 0, 0};
            S.due("close the day " + day, x.close(), due[day % 7]);
        }
        for (int week = 0; week < 4; week++) {
            S.due("charged for the week " + week, x.ofCard(0, 4 + week), 12);
        }
        TapCap y = Rides.withCards(1);
        y.close();
        y.tap(0, 0, 0, true, 0, 0);
        y.tap(0, 0, 0, true, 2, 0);
        S.due("with one that came late for the day 0, without the day 2", y.close(), 2);
        TapCap z = Rides.withZones();
        Rides.ride(z, 0, 0, 3, 0, 6, 100);
        z.tap(0, 0, 0, true, 7, 0);
        Rides.close(z, 7);
        S.due("guesses go by the week ahead", z.close(), 5);
        S.due("which is not charged again", z.ofCard(0, 4), 5);
    }

    private static void lessWhatWasCharged() {
        S.says(PART, "less what that PERSON was CHARGED for this WEEK so far, if that is above 0.");
        TapCap x = Rides.withZones();
        Rides.ride(x, 0, 4, 3, 0, 0, 100);
        S.due("the day 0", x.close(), 5);
        x.tap(0, 0, 0, true, 1, 0);
        S.due("the day 1", x.close(), 2);
        S.due("the day 2: nothing above", x.close(), 0);
        x.zone(3, 1);
        S.due("the day 3: the week costs 4 now, nothing is paid back", x.close(), 0);
        S.due("charged as before", x.ofCard(0, 4), 7);
        x.tap(0, 0, 0, true, 4, 0);
        S.due("the day 4: the week costs 6, still less", x.close(), 0);
        Rides.ins(x, 0, 0, 5, 1);
        S.due("the day 5: the week costs 8", x.close(), 1);
        S.due("purse", x.ofCard(0, 0), -8);
        Rides.close(x, 1);
        x.tap(0, 0, 0, true, 7, 0);
        S.due("the next week from nothing", x.close(), 2);
        x.tap(1, 0, 0, true, 8, 0);
        S.due("the other person was not charged so far", x.close(), 2);
    }

    private static void settledUpToTheLastClosedDay() {
        S.says(PART, "To SETTLE a WEEK that has a CLOSED DAY, for a PERSON: the same, up to the last DAY of it that "
                + "is CLOSED,");
        for (int closed = 0; closed <= 28; closed++) {
            Stand stand = Stand.GIVEN.times(closed, "close");
            for (int day = 0; day < 28; day++) {
                stand = stand.then("tap", 2, 0, 0, 1, day, 0);
            }
            for (int week = 0; week < 4; week++) {
                int days = Math.min(7, closed - 7 * week);
                Object due = days <= 0 ? "IllegalStateException" : Math.min(2 * days, 20);
                S.answers(stand, Call.of("settle", 2, week), due);
                S.answers(stand, Call.of("settle", 1, week), days <= 0 ? due : 0);
            }
        }
        TapCap x = Rides.withCards(2);
        x.tap(0, 0, 0, true, 0, 0);
        x.close();
        S.due("less what was charged", x.settle(0, 0), 0);
        x.tap(0, 0, 0, true, 0, 100);
        S.due("one more", x.settle(0, 0), 2);
        S.due("again", x.settle(0, 0), 0);
        S.due("charged", x.ofCard(0, 4), 4);
        S.due("from the purse", x.ofCard(0, 0), -4);
    }

    private static void settledBelowNothing() {
        S.says(PART, "also if it is below 0 (then so much is paid back).");
        TapCap x = Rides.withZones();
        Rides.ride(x, 0, 0, 3, 0, 27, 100);
        Rides.close(x, 28);
        S.due("charged", x.ofCard(0, 7), 5);
        x.zone(3, 1);
        S.due("settled", x.settle(0, 3), -3);
        S.due("purse", x.ofCard(0, 0), -2);
        S.due("charged for the week", x.ofCard(0, 7), 2);
        S.due("charged ever", x.many(7), 2);
        TapCap y = Rides.withCards(3);
        y.tap(2, 0, 0, true, 0, 0);
        y.close();
        y.tie(2, 1);
        S.due("1 takes the tap over", y.settle(1, 0), 2);
        y.tie(2, 0);
        S.due("and loses it: all is paid back", y.settle(1, 0), -2);
        S.due("its purse", y.ofCard(1, 0), 0);
        S.due("charged to it", y.ofCard(1, 4), 0);
        S.due("charged ever: what 2 paid", y.many(7), 2);
    }

    private static void shares(TapCap x, int day, int... want) {
        for (int carrier = 0; carrier < 3; carrier++) {
            S.due("share(" + carrier + ", 0, " + day + ")", x.share(carrier, 0, day), want[carrier]);
        }
    }

    private static TapCap withCarriers() {
        TapCap x = Rides.withZones();
        x.carrier(1, 1);
        x.carrier(2, 2);
        return x;
    }

    private static void sharesOfADayByItself() {
        S.says(PART, "SHARES of what a DAY costs a PERSON by itself:");
        TapCap x = withCarriers();
        x.tariff(0, 4, 0, 50, 5);
        Rides.ride(x, 0, 0, 0, 1, 6, 100);
        Rides.ride(x, 0, 0, 0, 2, 6, 200);
        S.due("within its week it costs nothing", x.ofDay(0, 6, 7), 0);
        shares(x, 6, 0, 4, 4);
        x.tariff(0, 4, 0, 6, 5);
        shares(x, 6, 0, 3, 3);
        for (int day = 0; day < 28; day++) {
            S.due("sum of the day " + day, x.share(0, 0, day) + x.share(1, 0, day) + x.share(2, 0, day),
                    day == 6 ? 6 : 0);
        }
    }

    private static void weights() {
        S.says(PART, "a CARRIER has a WEIGHT: the sum, over all JOURNEYS, of the FARE times the LEGS that are on LINES "
                + "of it, divided by all LEGS of the JOURNEY (each rounded down).");
        TapCap x = withCarriers();
        x.tariff(0, 5, 0, 50, 200);
        for (int minute = 100; minute < 500; minute += 200) {
            Rides.ride(x, 0, 0, 0, 1, 0, minute);
            Rides.ride(x, 0, 0, 0, 2, 0, minute + 20);
        }
        Rides.ride(x, 0, 0, 0, 0, 0, 700);
        // Twice 5 * 1 / 2 for 1 and 2, and 5 for 0: of 15 coins 5 * 15 / 13, and 4 * 15 / 13, and 2 are left over.
        shares(x, 0, 5, 6, 4);
        x.carrier(3, 2);
        Rides.ride(x, 0, 0, 0, 2, 1, 100);
        Rides.ride(x, 0, 0, 0, 1, 1, 120);
        Rides.ride(x, 0, 0, 0, 3, 1, 140);
        // 5 * 2 / 3 for 2 by both of its lines, 5 * 1 / 3 for 1: of 5 coins 3 * 5 / 4 and 1 * 5 / 4, and 1 is left.
        shares(x, 1, 0, 1, 4);
    }

    private static void partOfTheCost() {
        S.says(PART, "It gets the cost times its WEIGHT, divided by the WEIGHTS of all three (0, if these are 0);");
        TapCap x = withCarriers();
        x.tariff(0, 9, 0, 11, 200);
        Rides.ride(x, 0, 0, 0, 2, 0, 100);
        Rides.ride(x, 0, 0, 0, 1, 0, 200);
        Rides.ride(x, 0, 0, 0, 1, 0, 300);
        // The ticket for 11 by 9 and 18 of 27: 3 and 7, and 1 is left over.
        shares(x, 0, 0, 7, 4);
        x.tariff(0, 2, 0, 50, 200);
        for (int line = 0; line < 3; line++) {
            Rides.ride(x, 0, 0, 0, 2 - line, 3, 100 + 20 * line);
        }
        // 2 * 1 / 3 is 0 for each of them.
        shares(x, 3, 0, 0, 2);
        for (int carrier = 0; carrier < 3; carrier++) {
            S.due("of a day without legs", x.share(carrier, 0, 4), 0);
            S.due("of nobody's legs", x.share(carrier, 1, 3), 0);
        }
    }

    private static void leftOver() {
        S.says(PART, "what is left over goes to the CARRIER of the first LEG of that DAY.");
        for (int first = 0; first < 3; first++) {
            TapCap x = withCarriers();
            x.tariff(0, 1, 0, 50, 200);
            int next = (first + 1) % 3;
            // Told from the last one on: the first leg is that of the first minute. 1 * 1 / 2 is 0 for each.
            Rides.ride(x, 0, 0, 0, next, 27, 220);
            Rides.ride(x, 0, 0, 0, first, 27, 200);
            for (int carrier = 0; carrier < 3; carrier++) {
                S.due("weights of 0, share(" + carrier + ")", x.share(carrier, 0, 27), carrier == first ? 1 : 0);
            }
            x.tap(0, 0, next, false, 27, 0);
            S.due("a leg by itself is the first one", x.share(next, 0, 27), 2);
        }
        TapCap y = withCarriers();
        y.tariff(0, 3, 0, 5, 200);
        Rides.ride(y, 0, 0, 0, 2, 0, 100);
        Rides.ride(y, 0, 0, 0, 1, 0, 200);
        // The ticket for 5 by 3 and 3 of 6: 2 and 2, and 1 is left over.
        shares(y, 0, 0, 2, 3);
        y.tap(0, 0, 0, true, 0, 0);
        // By 3, 3 and 3 of 9: 1, 1 and 1, and 2 are left over.
        shares(y, 0, 3, 1, 1);
    }

    private static void lateByMinutes() {
        S.says(PART, "A LINE can be told to be late on a DAY by minutes.");
        for (int line = 0; line < 6; line++) {
            TapCap x = Rides.withCards(1);
            for (int day = 0; day < 28; day++) {
                S.due("late before", x.late(line, day, day + 1), 0);
            }
            for (int day = 0; day < 28; day++) {
                S.due("late told", x.late(line, day, 0), day + 1);
                S.due("on another line", x.late((line + 1) % 6, day, 0), 0);
            }
        }
    }

    private static void thirtyMinutesOrMore() {
        S.says(PART, "With 30 or more each PERSON can ask,");
        for (int minutes : new int[] {0, 1, 29, 30, 31, 200}) {
            Stand stand = Stand.GIVEN.then("tap", 3, 0, 5, 1, 27, 0).then("late", 5, 27, minutes);
            for (int person = 0; person < 4; person++) {
                Object due = minutes < 30 ? "IllegalStateException" : person == 3 ? 1 : 0;
                S.answers(stand, Call.of("refund", person, 5, 27), due);
            }
        }
        Stand less = Stand.GIVEN.then("late", 0, 0, 200).then("late", 0, 0, 29);
        S.refused(Rides.STATE, less, "refund", 0, 0, 0);
    }

    private static void onceForLineAndDay() {
        S.says(PART, "once for that LINE and DAY (also if it is 0), for a REFUND:");
        Stand stand = Stand.GIVEN;
        for (int line = 4; line < 6; line++) {
            stand = stand.then("late", line, 26, 30).then("late", line, 27, 30);
        }
        Stand asked = stand.then("refund", 1, 5, 27);
        S.refused(Rides.STATE, asked, "refund", 1, 5, 27);
        S.refused(Rides.STATE, asked.then("late", 5, 27, 200), "refund", 1, 5, 27);
        S.refused(Rides.STATE, asked.then("tap", 1, 0, 5, 1, 27, 0), "refund", 1, 5, 27);
        S.answers(asked, Call.of("refund", 1, 4, 27), 0);
        S.answers(asked, Call.of("refund", 1, 5, 26), 0);
        S.answers(asked, Call.of("refund", 0, 5, 27), 0);
        S.answers(asked, Call.of("refund", 2, 5, 27), 0);
        Stand early = Stand.GIVEN.then("refund", 1, 5, 27).then("late", 5, 27, 30);
        S.answers(early, Call.of("refund", 1, 5, 27), 0);
        for (int person = 0; person < 3; person++) {
            eachOnceForEachOfTwo(person, person + 1);
        }
    }

    /** 4 cards, 168 times late, and 168 refunds each: with the last one 509 calls. */
    private static void eachOnceForEachOfTwo(int one, int other) {
        TapCap x = Rides.withCards(4);
        for (int place = 0; place < 6 * 28; place++) {
            x.late(place / 28, place % 28, 30);
            S.due("refund of " + one + " at " + place, x.refund(one, place / 28, place % 28), 0);
        }
        for (int place = 0; place < 6 * 28; place++) {
            S.due("refund of " + other + " at " + place, x.refund(other, place / 28, place % 28), 0);
        }
        S.refuses("once more", Rides.STATE, () -> x.refund(one, 5, 27));
    }

    private static void halfOfEachFare() {
        S.says(PART, "the half, rounded down, of the FARE of each JOURNEY of that DAY with a LEG on that LINE;");
        int[] halves = {0, 1, 1, 2, 2, 3, 3, 4, 4};
        for (int base = 1; base <= 9; base++) {
            TapCap x = Rides.withCards(1);
            x.tariff(0, base, 0, 1, 1);
            x.late(0, 0, 30);
            Rides.ins(x, 0, 0, 0, 3);
            S.due("three fares of " + base, x.refund(0, 0, 0), 3 * halves[base - 1]);
        }
        TapCap y = Rides.withZones();
        y.late(5, 3, 30);
        y.late(4, 3, 30);
        y.late(3, 3, 30);
        Rides.ride(y, 0, 0, 3, 5, 3, 100);
        Rides.ride(y, 0, 3, 0, 5, 3, 120);
        Rides.ride(y, 0, 0, 0, 4, 3, 140);
        Rides.ride(y, 0, 0, 2, 5, 2, 100);
        Rides.ride(y, 0, 0, 2, 5, 4, 100);
        S.due("a journey with two legs on it counts once", y.refund(0, 5, 3), 2);
        S.due("with its last leg on it", y.refund(0, 4, 3), 2);
        S.due("with none", y.refund(0, 3, 3), 0);
        S.due("the other person has none", y.refund(1, 5, 3), 0);
    }

    private static void intoThePurse() {
        S.says(PART, "it comes into the PURSE of the CARD with that number.");
        TapCap x = Rides.withCards(4);
        x.tie(3, 1);
        x.late(0, 27, 30);
        Rides.ins(x, 3, 0, 27, 5);
        S.due("refund", x.refund(1, 0, 27), 5);
        int[] purses = {0, 5, 0, 0};
        for (int card = 0; card < 4; card++) {
            S.due("the purse of " + card, x.ofCard(card, 0), purses[card]);
        }
        S.due("refunds", x.many(8), 5);
        S.due("what was charged is as before", x.many(7), 0);
    }
}
