/** Promises 23 to 26: what would be, and that nothing is changed by it. */
public final class WouldBeTest {
    private static final Dues DUES = new Dues("WouldBeTest");

    public static void main(String[] args) {
        wouldCost();
        wouldCostOfTheWholeWeek();
        wouldCostAsTheLastThatCame();
        wouldCostInAnyState();
        wouldCostRefused();
        guess();
        guessRefused();
        worth();
        worthByGuesses();
        worthRefused();
        digest();
        digestOfAnEmptyRegion();
        DUES.end();
    }

    private static void wouldCost() {
        TapCap x = Rides.withZones();
        x.tap(0, 0, 0, true, 3, 100);
        long before = x.digest();
        DUES.due("out at the zone 4", x.wouldCost(0, 3, 0, false, 3, 120), 3);
        DUES.due("out at the zone 1", x.wouldCost(0, 5, 0, false, 3, 120), 0);
        DUES.due("out ahead of it: a leg by itself in its journey", x.wouldCost(0, 0, 0, false, 3, 90), 0);
        DUES.due("another journey", x.wouldCost(0, 0, 0, true, 3, 500), 2);
        DUES.due("of the other person", x.wouldCost(1, 1, 0, true, 3, 500), 2);
        DUES.dueLong("nothing is changed: digest", x.digest(), before);
        DUES.due("nothing is kept", x.tap(0, 3, 0, false, 3, 120), 2);
        x.tie(1, 0);
        x.tap(0, 0, 0, true, 3, 600);
        DUES.due("of the person that the card is of", x.wouldCost(1, 3, 0, false, 3, 610), 3);
    }

    private static void wouldCostOfTheWholeWeek() {
        TapCap x = Rides.withZones();
        x.tap(0, 0, 0, true, 8, 100);
        x.tap(0, 0, 0, true, 13, 100);
        x.tap(0, 0, 0, true, 14, 100);
        x.tap(0, 0, 0, true, 7, 100);
        DUES.due("all three legs of the week go by its guess", x.wouldCost(0, 3, 0, false, 7, 120), 9);
        x.tariff(7, 2, 1, 5, 1);
        DUES.due("the week ticket for 1, and two ways more", x.ofWeek(0, 1, 0), 1);
        DUES.due("the fares are 15: the ticket for 2 is no use", x.wouldCost(0, 3, 0, false, 7, 120), 14);
    }

    private static void wouldCostAsTheLastThatCame() {
        TapCap x = Rides.withZones();
        x.tap(0, 0, 0, true, 0, 100);
        x.tap(0, 3, 1, true, 0, 200);
        x.tap(0, 0, 2, false, 0, 300);
        DUES.due("two journeys of 2 and 5", x.ofDay(0, 0, 4), 7);
        DUES.due("behind the in of its minute: legs of 2, 2 and 2", x.wouldCost(0, 3, 1, false, 0, 200), -1);
        DUES.due("behind the in of its minute: legs of 2, 5 and 2", x.wouldCost(0, 0, 1, false, 0, 200), 2);
    }

    private static void wouldCostInAnyState() {
        TapCap x = Rides.withZones();
        x.tap(0, 0, 0, true, 3, 100);
        DUES.due("doubled: passed over", x.wouldCost(0, 0, 0, true, 3, 100), 0);
        x.tap(0, 0, 0, false, 3, 110);
        DUES.due("doubled, but kept: a leg by itself with the guess", x.wouldCost(0, 0, 0, true, 3, 100), 0);
        x.tap(1, 2, 0, false, 3, 100);
        DUES.due("doubled out, but passed over", x.wouldCost(1, 2, 0, false, 3, 100), 0);
        x.lose(0, true);
        DUES.due("lost", x.wouldCost(0, 3, 0, false, 3, 120), 3);
        x.lose(0, false);
        for (int i = 0; i < 37; i++) {
            x.tap(1, 0, 0, true, 20, i);
        }
        DUES.due("40 are kept", x.many(1), 40);
        long before = x.digest();
        DUES.due("as the 41st", x.wouldCost(0, 3, 0, false, 3, 120), 3);
        DUES.due("as the 41st of one person", x.wouldCost(1, 3, 0, false, 22, 120), 2);
        DUES.dueLong("nothing is changed: digest", x.digest(), before);
        DUES.due("nothing is denied", x.many(2), 0);
        DUES.due("nothing is doubled", x.many(3), 0);
    }

    private static void wouldCostRefused() {
        TapCap x = Rides.withCards(1);
        DUES.refuses(x, "of no card", Rides.INDEX, () -> x.wouldCost(1, 0, 0, true, 0, 0));
        DUES.refuses(x, "of the card -1", Rides.INDEX, () -> x.wouldCost(-1, 0, 0, true, 0, 0));
        DUES.refuses(x, "at the stop -1", Rides.INDEX, () -> x.wouldCost(0, -1, 0, true, 0, 0));
        DUES.refuses(x, "at the stop 10", Rides.INDEX, () -> x.wouldCost(0, 10, 0, true, 0, 0));
        DUES.refuses(x, "on the line -1", Rides.INDEX, () -> x.wouldCost(0, 0, -1, true, 0, 0));
        DUES.refuses(x, "on the line 6", Rides.INDEX, () -> x.wouldCost(0, 0, 6, true, 0, 0));
        DUES.refuses(x, "on the day -1", Rides.INDEX, () -> x.wouldCost(0, 0, 0, true, -1, 0));
        DUES.refuses(x, "on the day 28", Rides.INDEX, () -> x.wouldCost(0, 0, 0, true, 28, 1440));
        DUES.refuses(x, "in the minute -1", Rides.ARGUMENT, () -> x.wouldCost(0, 0, 0, true, 0, -1));
        DUES.refuses(x, "in the minute 1440", Rides.ARGUMENT, () -> x.wouldCost(0, 0, 0, true, 0, 1440));
    }

    private static void guess() {
        TapCap x = Rides.withCards(2);
        Rides.ride(x, 0, 3, 9, 0, 4, 100);
        Rides.ride(x, 0, 3, 7, 0, 4, 200);
        Rides.ride(x, 0, 6, 9, 0, 5, 100);
        Rides.ride(x, 0, 6, 9, 0, 5, 200);
        for (int stop = 0; stop <= 9; stop++) {
            DUES.due("without any: " + stop, x.guess(0, 4, stop, true), stop);
            DUES.due("of the other person: " + stop, x.guess(1, 27, stop, true), stop);
        }
        DUES.due("from 3: 7 and 9 once each", x.guess(0, 5, 3, true), 7);
        DUES.due("to 9: from 3", x.guess(0, 5, 9, false), 3);
        DUES.due("to 9: from 6 twice", x.guess(0, 6, 9, false), 6);
        DUES.due("from 9: none", x.guess(0, 6, 9, true), 9);
        DUES.due("from 6", x.guess(0, 27, 6, true), 9);
        x.tap(0, 6, 0, true, 8, 100);
        Rides.ride(x, 0, 6, 1, 0, 8, 200);
        Rides.ride(x, 0, 6, 1, 0, 8, 300);
        Rides.ride(x, 0, 6, 1, 0, 8, 400);
        DUES.due("from 6 on the day itself", x.guess(0, 8, 6, true), 9);
        DUES.due("from 6 on the next one", x.guess(0, 9, 6, true), 1);
        x.tie(1, 0);
        Rides.ride(x, 1, 8, 5, 0, 20, 400);
        DUES.due("by another card of the person", x.guess(0, 21, 5, false), 8);
    }

    private static void guessRefused() {
        TapCap x = Rides.withCards(2);
        x.tie(1, 0);
        DUES.refuses(x, "guess(1, 0, 0, true): no person", Rides.INDEX, () -> x.guess(1, 0, 0, true));
        DUES.refuses(x, "guess(2, 0, 0, true)", Rides.INDEX, () -> x.guess(2, 0, 0, true));
        DUES.refuses(x, "guess(-1, 0, 0, true)", Rides.INDEX, () -> x.guess(-1, 0, 0, true));
        DUES.refuses(x, "guess(0, -1, 0, true)", Rides.INDEX, () -> x.guess(0, -1, 0, true));
        DUES.refuses(x, "guess(0, 28, 0, true)", Rides.INDEX, () -> x.guess(0, 28, 0, true));
        DUES.refuses(x, "guess(0, 0, -1, true)", Rides.INDEX, () -> x.guess(0, 0, -1, true));
        DUES.refuses(x, "guess(0, 0, 10, true)", Rides.INDEX, () -> x.guess(0, 0, 10, true));
    }

    private static void worth() {
        TapCap x = Rides.withCards(2);
        Rides.shortRides(x, 0, 7, 3);
        Rides.shortRides(x, 0, 13, 1);
        Rides.shortRides(x, 1, 8, 2);
        long before = x.digest();
        DUES.due("three fares with a ticket for 5", x.worth(0, 1, 7), 5);
        DUES.due("one fare", x.worth(0, 1, 13), 2);
        DUES.due("no taps of this person", x.worth(0, 1, 8), 0);
        DUES.due("of the other person", x.worth(1, 1, 8), 4);
        x.tie(1, 0);
        DUES.due("with the taps of all cards", x.worth(0, 1, 8), 4);
        x.tariff(7, 2, 1, 5, 6);
        DUES.due("a week ticket all the same", x.worth(0, 1, 13), 0);
        TapCap y = Rides.withCards(2);
        Rides.shortRides(y, 0, 7, 3);
        Rides.shortRides(y, 0, 13, 1);
        Rides.shortRides(y, 1, 8, 2);
        y.worth(0, 1, 7);
        DUES.dueLong("nothing is changed: digest", y.digest(), before);
    }

    private static void worthByGuesses() {
        TapCap x = Rides.withZones();
        Rides.ride(x, 0, 0, 5, 0, 1, 100);
        Rides.ride(x, 0, 0, 3, 0, 0, 100);
        x.tap(0, 0, 0, true, 2, 100);
        x.tap(0, 0, 0, true, 3, 100);
        x.tap(0, 0, 0, true, 4, 100);
        DUES.due("all go to 3", x.ofLeg(0, 2, 0, 1), 3);
        DUES.due("without the day 1 there is a fare of 2 less", x.worth(0, 0, 1), 2);
        DUES.due("without the day 0 a fare of 5 less, and three by guesses", x.worth(0, 0, 0), 5 + 3 * 3);
        TapCap y = Rides.withZones();
        Rides.ride(y, 0, 0, 3, 0, 1, 100);
        Rides.ride(y, 0, 0, 0, 0, 0, 100);
        y.tap(0, 0, 0, true, 2, 100);
        y.tap(0, 0, 0, true, 3, 100);
        DUES.due("without the day 0 its fare less, but all go to 3: below 0", y.worth(0, 0, 0), 2 - 6);
    }

    private static void worthRefused() {
        TapCap x = Rides.withCards(2);
        x.tie(1, 0);
        DUES.refuses(x, "worth(1, 0, 0): no person", Rides.INDEX, () -> x.worth(1, 0, 0));
        DUES.refuses(x, "worth(2, 0, 0)", Rides.INDEX, () -> x.worth(2, 0, 0));
        DUES.refuses(x, "worth(-1, 0, 0)", Rides.INDEX, () -> x.worth(-1, 0, 0));
        DUES.refuses(x, "worth(0, -1, 0)", Rides.INDEX, () -> x.worth(0, -1, 0));
        DUES.refuses(x, "worth(0, 4, 28)", Rides.INDEX, () -> x.worth(0, 4, 28));
        DUES.refuses(x, "worth(0, 0, -1)", Rides.ARGUMENT, () -> x.worth(0, 0, -1));
        DUES.refuses(x, "worth(0, 0, 7)", Rides.ARGUMENT, () -> x.worth(0, 0, 7));
        DUES.refuses(x, "worth(0, 1, 6)", Rides.ARGUMENT, () -> x.worth(0, 1, 6));
        DUES.refuses(x, "worth(0, 3, 28)", Rides.ARGUMENT, () -> x.worth(0, 3, 28));
        DUES.due("worth(0, 3, 27)", x.worth(0, 3, 27), 0);
        DUES.due("worth(0, 3, 21)", x.worth(0, 3, 21), 0);
    }

    private static void digestOfAnEmptyRegion() {
        TapCap x = new TapCap();
        long d = 4806;
        for (int what = 0; what <= 8; what++) {
            d = d * 31 + (what == 5 ? 1 : 0);
        }
        DUES.dueLong("digest of a new object", x.digest(), d);
        DUES.dueLong("digest again", x.digest(), d);
    }

    private static void digest() {
        Stand stand = Stand.GIVEN.then("zone", 1, 2).then("zone", 2, 3).then("zone", 3, 4).then("carrier", 1, 2)
                .then("tie", 2, 1).then("tie", 3, 1).then("pay", 0, 77)
                .then("tap", 0, 0, 1, 1, 0, 100).then("tap", 0, 3, 1, 0, 0, 115)
                .then("tap", 2, 4, 2, 1, 9, 100).then("tap", 2, 2, 2, 0, 9, 115)
                .then("tap", 0, 0, 0, 1, 9, 100).then("tap", 1, 2, 3, 0, 20, 1000).then("tap", 1, 4, 3, 0, 20, 1003)
                .then("tap", 0, 6, 1, 1, 26, 100).then("tap", 0, 7, 1, 0, 26, 115)
                .then("tap", 0, 8, 1, 1, 27, 100).then("tap", 0, 9, 1, 0, 27, 115)
                .times(10, "close").then("lose", 1, 1).then("tap", 1, 0, 0, 1, 0, 0);
        DUES.dueLong("digest by what the calls answer", stand.made().digest(), byCalls(new Asker(stand)));
    }

    private static long byCalls(Asker x) {
        long d = 4806;
        for (int what = 0; what <= 8; what++) {
            d = d * 31 + x.ask("many", what);
        }
        int cards = x.ask("many", 0);
        for (int card = 0; card < cards; card++) {
            for (int what = 0; what <= 7; what++) {
                d = d * 31 + x.ask("ofCard", card, what);
            }
        }
        for (int card = 0; card < cards; card++) {
            d = x.ask("ofCard", card, 1) == card ? personByCalls(x, card, d) : d;
        }
        return d;
    }

    private static long personByCalls(Asker x, int person, long start) {
        long d = start;
        for (int day = 0; day <= 27; day++) {
            for (int what = 0; what <= 7; what++) {
                d = d * 31 + x.ask("ofDay", person, day, what);
            }
            for (int carrier = 0; carrier < 3 && x.ask("ofDay", person, day, 0) > 0; carrier++) {
                d = d * 31 + x.ask("share", carrier, person, day);
            }
            int legs = x.ask("ofDay", person, day, 1);
            for (int leg = 0; leg < legs; leg++) {
                for (int what = 0; what <= 6; what++) {
                    d = d * 31 + x.ask("ofLeg", person, day, leg, what);
                }
            }
        }
        for (int week = 0; week <= 3; week++) {
            for (int what = 0; what <= 2; what++) {
                d = d * 31 + x.ask("ofWeek", person, week, what);
            }
        }
        for (int stop = 0; stop <= 9; stop++) {
            d = d * 31 + x.ask("guess", person, 27, stop, 1);
        }
        return d;
    }
}
