import java.util.List;

/** A test for each sentence of Terms 2: cards and taps. */
public final class Terms2CardsTest {
    private static final String PART = "Terms 2";
    private static final Sentences S = new Sentences("Terms2CardsTest", PART);

    public static void main(String[] args) {
        atMostFourCards();
        purse();
        lost();
        personAtFirstAndTied();
        tiedIsNoPerson();
        tapsGoWithTheTie();
        moneyStaysWithTheNumbers();
        sixPartsOfATap();
        atMostFortyTaps();
        denied();
        doubled();
        keptOnAClosedDay();
        S.end();
    }

    private static void atMostFourCards() {
        S.says(PART, "CARDS: at most 4, numbered from 0,");
        TapCap x = new TapCap();
        for (int number = 0; number < 4; number++) {
            int next = number;
            S.refuses("the card " + next + " ahead of its call", Rides.INDEX, () -> x.ofCard(next, 0));
            S.due("the number", x.card(), number);
            S.due("how many", x.many(0), number + 1);
        }
        S.refuses("a fifth", Rides.STATE, x::card);
        S.refuses("a fifth again", Rides.STATE, x::card);
        S.refuses("the card 4", Rides.INDEX, () -> x.ofCard(4, 0));
    }

    private static void purse() {
        S.says(PART, "each with a PURSE (0 at first; it can be below 0),");
        TapCap x = Rides.withCards(4);
        for (int card = 0; card < 4; card++) {
            S.due("first purse of " + card, x.ofCard(card, 0), 0);
            Rides.ins(x, card, 0, 0, card + 1);
        }
        x.close();
        int[] below = {-2, -4, -5, -5};
        for (int card = 0; card < 4; card++) {
            S.due("purse of " + card, x.ofCard(card, 0), below[card]);
            S.due("pay into the purse of " + card, x.pay(card, 1), below[card] + 1);
        }
        S.due("all purses", x.many(6), -12);
    }

    private static void lost() {
        S.says(PART, "LOST or not,");
        for (int card = 0; card < 4; card++) {
            TapCap x = Rides.withCards(4);
            S.due("not at first: " + card, x.ofCard(card, 2), 0);
            x.lose(card, true);
            for (int other = 0; other < 4; other++) {
                S.due("lost " + other + " beside " + card, x.ofCard(other, 2), other == card ? 1 : 0);
            }
            x.lose(card, false);
            S.due("found: " + card, x.ofCard(card, 2), 0);
        }
    }

    private static void personAtFirstAndTied() {
        S.says(PART, "and of a PERSON, who is the number of a CARD: of itself at first, or of a smaller one to which "
                + "it was tied");
        for (int card = 0; card < 4; card++) {
            TapCap x = Rides.withCards(4);
            S.due("person of " + card + " at first", x.ofCard(card, 1), card);
            for (int person = 0; person < card; person++) {
                x.tie(card, person);
                S.due("person of " + card + ", tied", x.ofCard(card, 1), person);
            }
            for (int person = card; person < 4; person++) {
                int greater = person;
                int number = card;
                // Tied it is no person itself, and the numbers behind it are not smaller.
                Class<? extends RuntimeException> due = card > 0 && person == card ? Rides.INDEX : Rides.ARGUMENT;
                S.refuses("tie(" + card + ", " + person + ")", due, () -> x.tie(number, greater));
            }
        }
        S.refused(Rides.ARGUMENT, Stand.GIVEN, List.of(Call.of("tie", 0, 0), Call.of("tie", 3, 3),
                Call.of("tie", 0, 3), Call.of("tie", 2, 3)));
    }

    private static void tiedIsNoPerson() {
        S.says(PART, "(that is the PERSON of itself; one that is tied is no PERSON).");
        Stand tied = Stand.GIVEN.then("tie", 2, 1).times(28, "close");
        S.answers(tied, Call.of("ofCard", 1, 1), 1);
        S.answers(tied, Call.of("ofDay", 1, 0, 0), 0);
        S.refused(Rides.INDEX, tied, List.of(Call.of("ofDay", 2, 0, 0), Call.of("ofWeek", 2, 0, 0),
                Call.of("share", 0, 2, 0), Call.of("guess", 2, 0, 0, 1), Call.of("worth", 2, 0, 0)));
        S.refused(Rides.INDEX, tied.then("late", 0, 0, 30), List.of(Call.of("settle", 2, 0),
                Call.of("refund", 2, 0, 0), Call.of("tie", 3, 2)));
        Stand ridden = tied.then("tap", 2, 0, 0, 1, 0, 0);
        S.refused(Rides.INDEX, ridden, List.of(Call.of("ofLeg", 2, 0, 0, 0), Call.of("ofJourney", 2, 0, 0, 0)));
        S.answers(ridden, Call.of("ofLeg", 1, 0, 0, 0), 0);
        S.answers(ridden, Call.of("ofJourney", 1, 0, 0, 0), 1);
        S.refused(Rides.STATE, tied, "tie", 1, 0);
    }

    private static void tapsGoWithTheTie() {
        S.says(PART, "TAPS of a CARD are those of the PERSON that it is of now;");
        TapCap x = Rides.withCards(4);
        Rides.ins(x, 3, 0, 0, 3);
        Rides.ins(x, 2, 0, 1, 1);
        x.close();
        tapsOfDayZero(x, 3, 0, 0, 0, 3);
        x.tie(3, 2);
        tapsOfDayZero(x, 2, 0, 0, 3, -1);
        S.due("beside those of the card 2", x.ofDay(2, 1, 0), 1);
        x.tie(3, 0);
        tapsOfDayZero(x, 0, 3, 0, 0, -1);
        x.tap(3, 1, 1, true, 0, 900);
        tapsOfDayZero(x, 0, 4, 0, 0, -1);
        x.tie(3, 1);
        tapsOfDayZero(x, 1, 0, 4, 0, -1);
    }

    /** How many each has; -1 stands for one that is no person. */
    private static void tapsOfDayZero(TapCap x, int tiedTo, int... want) {
        for (int person = 0; person < 4; person++) {
            if (want[person] >= 0) {
                S.due("taps of " + person + ", the card 3 of " + tiedTo, x.ofDay(person, 0, 0), want[person]);
            }
        }
    }

    private static void moneyStaysWithTheNumbers() {
        S.says(PART, "PURSES, what was CHARGED and REFUNDS stay with the numbers.");
        TapCap x = Rides.withCards(2);
        Rides.ins(x, 1, 0, 0, 2);
        x.late(0, 0, 30);
        S.due("refund of 1", x.refund(1, 0, 0), 2);
        S.due("charged", x.close(), 4);
        x.pay(1, 100);
        x.tie(1, 0);
        S.due("the purse of 1", x.ofCard(1, 0), 98);
        S.due("the purse of 0", x.ofCard(0, 0), 0);
        S.due("charged to 1", x.ofCard(1, 4), 4);
        S.due("charged to 0", x.ofCard(0, 4), 0);
        S.due("0 has not asked for the refund yet", x.refund(0, 0, 0), 2);
        S.due("0 was not charged yet, and is by the next close", x.close(), 4);
        S.due("charged ever", x.many(7), 8);
        S.due("refunds ever", x.many(8), 4);
        TapCap y = Rides.withCards(3);
        y.late(0, 0, 30);
        y.refund(1, 0, 0);
        y.tie(2, 1);
        S.refuses("asked for by 1, ahead of the tie", Rides.STATE, () -> y.refund(1, 0, 0));
    }

    private static void sixPartsOfATap() {
        S.says(PART, "A TAP is of a CARD, at a STOP, on a LINE, IN or OUT, on a DAY, in a minute.");
        Stand one = Stand.GIVEN.then("tap", 1, 1, 1, 1, 1, 1);
        S.answers(one, Call.of("tap", 1, 1, 1, 1, 1, 1), -3);
        S.answers(one, Call.of("tap", 0, 1, 1, 1, 1, 1), 2);
        S.answers(one, Call.of("tap", 1, 0, 1, 1, 1, 1), 2);
        S.answers(one, Call.of("tap", 1, 1, 0, 1, 1, 1), 2);
        S.answers(one, Call.of("tap", 1, 1, 1, 0, 1, 1), 2);
        S.answers(one, Call.of("tap", 1, 1, 1, 1, 0, 1), 2);
        S.answers(one, Call.of("tap", 1, 1, 1, 1, 1, 0), 2);
        int[] want = {8, 8, 1439, 1439, 4, 2};
        for (int what = 0; what < want.length; what++) {
            S.answers(Stand.GIVEN.then("tap", 3, 8, 4, 1, 27, 1439), Call.of("ofLeg", 3, 27, 0, what), want[what]);
        }
    }

    private static void atMostFortyTaps() {
        S.says(PART, "At most 40 are kept.");
        Stand stand = Stand.GIVEN;
        for (int i = 1; i <= 40; i++) {
            Call tap = Call.of("tap", i % 4, i % 10, i % 6, i % 2, i % 28, 30 * i);
            S.answers(stand, tap, i);
            stand = stand.then(List.of(tap));
        }
        S.answers(stand, Call.of("many", 1), 40);
        for (int card = 0; card < 4; card++) {
            S.answers(stand, Call.of("ofCard", card, 3), 10);
            S.refused(Rides.STATE, stand, "tap", card, 0, 0, 0, 0, 0);
        }
        S.answers(stand, Call.of("ofDay", 0, 12, 0), 2);
        S.answers(stand.then("tie", 2, 0), Call.of("ofDay", 0, 12, 0), 2);
    }

    private static void denied() {
        S.says(PART, "One of a CARD that is LOST as it comes is DENIED, and not kept;");
        TapCap x = Rides.withCards(2);
        x.tap(0, 3, 0, true, 0, 100);
        x.lose(0, true);
        S.due("the one that came ahead is still there", x.ofDay(0, 0, 0), 1);
        S.due("denied", x.tap(0, 4, 0, false, 0, 110), -2);
        S.due("the same as a kept one: denied", x.tap(0, 3, 0, true, 0, 100), -2);
        S.due("of another card", x.tap(1, 3, 0, true, 0, 100), 2);
        S.due("not kept", x.many(1), 2);
        S.due("denied ever", x.many(2), 2);
        S.due("doubled ever", x.many(3), 0);
        S.due("taps of the card", x.ofCard(0, 3), 1);
        x.lose(0, false);
        S.due("found: it is kept", x.tap(0, 4, 0, false, 0, 110), 3);
        S.answers(Stand.FULL.then("lose", 1, 1), Call.of("tap", 1, 0, 0, 1, 0, 0), -2);
    }

    private static void doubled() {
        S.says(PART, "otherwise one that is the same in all as one that is kept is DOUBLED, and not kept;");
        TapCap x = Rides.withCards(2);
        x.tap(0, 0, 0, false, 0, 0);
        S.due("the first one of nothing but zeros is not the same as none", x.many(1), 1);
        S.due("doubled", x.tap(0, 0, 0, false, 0, 0), -3);
        S.due("again", x.tap(0, 0, 0, false, 0, 0), -3);
        x.tap(0, 1, 0, false, 0, 0);
        S.due("with one between", x.tap(0, 0, 0, false, 0, 0), -3);
        x.close();
        S.due("of a closed day", x.tap(0, 0, 0, false, 0, 0), -3);
        S.due("not kept", x.many(1), 2);
        S.due("doubled ever", x.many(3), 4);
        S.due("denied ever", x.many(2), 0);
        x.lose(1, true);
        x.tap(1, 2, 0, true, 0, 5);
        x.lose(1, false);
        S.due("one that was denied is not kept: no double", x.tap(1, 2, 0, true, 0, 5), 3);
        Stand stand = Stand.GIVEN;
        for (int i = 0; i < 40; i++) {
            stand = stand.then("tap", 0, 0, 0, 1, 0, i);
        }
        S.answers(stand, Call.of("tap", 0, 0, 0, 1, 0, 0), -3);
        S.answers(stand, Call.of("tap", 0, 0, 0, 1, 0, 39), -3);
        S.refused(Rides.STATE, stand, "tap", 0, 0, 0, 1, 0, 40);
        S.answers(stand.then("tap", 0, 0, 0, 1, 0, 40), Call.of("many", 3), 0);
    }

    private static void keptOnAClosedDay() {
        S.says(PART, "one of a DAY that is CLOSED is kept as well.");
        TapCap x = Rides.withCards(1);
        Rides.close(x, 28);
        S.due("on the first day", x.tap(0, 0, 0, true, 0, 0), 1);
        S.due("on the last day", x.tap(0, 0, 0, true, 27, 1439), 2);
        S.due("the first day costs", x.ofDay(0, 0, 5), 2);
        S.due("the last week costs", x.ofWeek(0, 3, 0), 2);
        S.due("nothing was charged", x.many(7), 0);
    }
}
