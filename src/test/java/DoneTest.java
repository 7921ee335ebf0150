/** Promises 10 to 13: what is done. */
public final class DoneTest {
    private static final Dues DUES = new Dues("DoneTest");

    public static void main(String[] args) {
        tapIsKept();
        tapIsDoubledOrDenied();
        tapBounds();
        fortyTaps();
        close();
        closeChargesEachPerson();
        closeByTheWeekSoFar();
        closeAll();
        settle();
        settleUpToTheLastClosedDay();
        settleRefused();
        refund();
        refundRefused();
        refundStaysWithTheNumber();
        refundOfEachByItself();
        DUES.end();
    }

    private static void tapIsKept() {
        TapCap x = Rides.withCards(2);
        DUES.due("the first tap", x.tap(0, 0, 0, true, 0, 0), 1);
        DUES.due("the second tap", x.tap(1, 9, 5, false, 27, 1439), 2);
        DUES.due("taps kept", x.many(1), 2);
        DUES.due("of the card 0", x.ofCard(0, 3), 1);
        DUES.due("of the card 1", x.ofCard(1, 3), 1);
        Rides.close(x, 2);
        DUES.due("a tap of a closed day", x.tap(0, 0, 0, true, 1, 0), 3);
        TapCap y = Rides.withCards(1);
        DUES.due("a first tap with nothing but zeros", y.tap(0, 0, 0, false, 0, 0), 1);
    }

    private static void tapIsDoubledOrDenied() {
        TapCap x = Rides.withCards(2);
        x.tap(0, 1, 2, true, 3, 400);
        DUES.due("the same in all", x.tap(0, 1, 2, true, 3, 400), -3);
        DUES.due("of another card", x.tap(1, 1, 2, true, 3, 400), 2);
        DUES.due("at another stop", x.tap(0, 2, 2, true, 3, 400), 3);
        DUES.due("on another line", x.tap(0, 1, 1, true, 3, 400), 4);
        DUES.due("out", x.tap(0, 1, 2, false, 3, 400), 5);
        DUES.due("on another day", x.tap(0, 1, 2, true, 4, 400), 6);
        DUES.due("in another minute", x.tap(0, 1, 2, true, 3, 401), 7);
        x.lose(0, true);
        DUES.due("denied ahead of doubled", x.tap(0, 1, 2, true, 3, 400), -2);
        DUES.due("denied", x.tap(0, 5, 5, true, 5, 5), -2);
        DUES.due("the other card is not lost", x.tap(1, 1, 2, true, 3, 400), -3);
        x.lose(0, false);
        DUES.due("found: what was denied is not kept", x.tap(0, 5, 5, true, 5, 5), 8);
        DUES.due("kept", x.many(1), 8);
        DUES.due("denied ever", x.many(2), 2);
        DUES.due("doubled ever", x.many(3), 2);
    }

    private static void tapBounds() {
        TapCap x = Rides.withCards(1);
        DUES.refuses(x, "tap of no card", Rides.INDEX, () -> x.tap(1, 0, 0, true, 0, 0));
        DUES.refuses(x, "tap of the card -1", Rides.INDEX, () -> x.tap(-1, 0, 0, true, 0, 0));
        DUES.refuses(x, "tap at the stop -1", Rides.INDEX, () -> x.tap(0, -1, 0, true, 0, 0));
        DUES.refuses(x, "tap at the stop 10", Rides.INDEX, () -> x.tap(0, 10, 0, true, 0, 0));
        DUES.refuses(x, "tap on the line -1", Rides.INDEX, () -> x.tap(0, 0, -1, true, 0, 0));
        DUES.refuses(x, "tap on the line 6", Rides.INDEX, () -> x.tap(0, 0, 6, true, 0, 0));
        DUES.refuses(x, "tap on the day -1", Rides.INDEX, () -> x.tap(0, 0, 0, true, -1, 0));
        DUES.refuses(x, "tap on the day 28", Rides.INDEX, () -> x.tap(0, 0, 0, true, 28, 0));
        DUES.refuses(x, "tap in the minute -1", Rides.ARGUMENT, () -> x.tap(0, 0, 0, true, 0, -1));
        DUES.refuses(x, "tap in the minute 1440", Rides.ARGUMENT, () -> x.tap(0, 0, 0, true, 0, 1440));
        DUES.refuses(x, "tap on the day 28 in the minute 1440", Rides.INDEX, () -> x.tap(0, 0, 0, true, 28, 1440));
        x.lose(0, true);
        DUES.refuses(x, "lost, minute 1440", Rides.ARGUMENT, () -> x.tap(0, 0, 0, true, 0, 1440));
    }

    private static void fortyTaps() {
        TapCap x = Rides.withCards(2);
        for (int i = 1; i <= 40; i++) {
            DUES.due("tap " + i, x.tap(i % 2, i % 10, i % 6, i % 3 == 0, i % 28, i), i);
        }
        DUES.refuses(x, "the tap 41", Rides.STATE, () -> x.tap(0, 0, 0, true, 0, 0));
        DUES.refuses(x, "the tap 41 in no minute", Rides.ARGUMENT, () -> x.tap(0, 0, 0, true, 0, -1));
        DUES.refuses(x, "the tap 41 once more", Rides.STATE, () -> x.tap(0, 0, 0, true, 0, 0));
        DUES.due("a doubled one is no 41st", x.tap(1, 1, 1, false, 1, 1), -3);
        x.lose(0, true);
        DUES.due("a denied one is no 41st", x.tap(0, 0, 0, true, 0, 0), -2);
        DUES.due("kept", x.many(1), 40);
    }

    private static void close() {
        TapCap x = Rides.withCards(1);
        Rides.shortRides(x, 0, 0, 1);
        Rides.shortRides(x, 0, 1, 3);
        DUES.due("close the day 0: one fare of 2", x.close(), 2);
        DUES.due("close the day 1: three fares of 2, but a ticket for 5", x.close(), 5);
        DUES.due("close the day 2", x.close(), 0);
        DUES.due("closed", x.many(4), 3);
        DUES.due("charged for the week 0", x.ofCard(0, 4), 7);
        DUES.due("the purse is below 0", x.ofCard(0, 0), -7);
        DUES.due("charged ever", x.many(7), 7);
    }

    private static void closeChargesEachPerson() {
        TapCap x = Rides.withCards(4);
        x.tie(2, 1);
        Rides.shortRides(x, 0, 0, 1);
        Rides.shortRides(x, 1, 0, 1);
        Rides.ride(x, 2, 0, 0, 0, 0, 700);
        DUES.due("one fare and two", x.close(), 6);
        DUES.due("purse of 0", x.ofCard(0, 0), -2);
        DUES.due("purse of 1: with the taps of 2", x.ofCard(1, 0), -4);
        DUES.due("purse of 2", x.ofCard(2, 0), 0);
        DUES.due("charged 1", x.ofCard(1, 4), 4);
        DUES.due("charged 2", x.ofCard(2, 4), 0);
    }

    private static void closeByTheWeekSoFar() {
        TapCap x = Rides.withCards(1);
        x.tariff(0, 9, 0, 50, 20);
        for (int day = 0; day < 8; day++) {
            Rides.shortRides(x, 0, day, 1);
        }
        DUES.due("day 0: a fare", x.close(), 9);
        DUES.due("day 1: a fare", x.close(), 9);
        DUES.due("day 2: the week ticket for 20, less 18", x.close(), 2);
        DUES.due("day 3: nothing more", x.close(), 0);
        Rides.shortRides(x, 0, 4, 2);
        DUES.due("day 4", x.close(), 0);
        x.tariff(5, 9, 0, 50, 1);
        DUES.due("day 5: the tariff of the first day counts", x.close(), 0);
        x.close();
        DUES.due("day 7: the next week by its own tariff", x.close(), 1);
        DUES.due("charged for the week 0", x.ofCard(0, 4), 20);
        DUES.due("charged for the week 1", x.ofCard(0, 5), 1);
    }

    private static void closeAll() {
        TapCap x = Rides.withCards(1);
        Rides.shortRides(x, 0, 27, 1);
        for (int day = 0; day < 28; day++) {
            DUES.due("close the day " + day, x.close(), day == 27 ? 2 : 0);
        }
        DUES.refuses(x, "close once more", Rides.STATE, x::close);
        DUES.due("closed", x.many(4), 28);
        DUES.due("charged for the week 3", x.ofCard(0, 7), 2);
        TapCap y = Rides.withCards(4);
        Rides.shortRides(y, 3, 27, 1);
        Rides.shortRides(y, 2, 20, 2);
        Rides.close(y, 28);
        DUES.due("the last person, for the week 3", y.ofCard(3, 7), 2);
        DUES.due("the last but one, for the week 2", y.ofCard(2, 6), 4);
        DUES.due("charged ever", y.many(7), 6);
    }

    private static void settle() {
        TapCap x = Rides.withZones();
        Rides.ride(x, 0, 0, 3, 0, 0, 100);
        DUES.due("close: a fare of 5", x.close(), 5);
        x.zone(3, 1);
        Rides.close(x, 1);
        DUES.due("closing pays nothing back", x.ofCard(0, 4), 5);
        DUES.due("settle: the fare is 2 now", x.settle(0, 0), -3);
        DUES.due("paid back into the purse", x.ofCard(0, 0), -2);
        DUES.due("charged for the week", x.ofCard(0, 4), 2);
        DUES.due("charged ever, less what was paid back", x.many(7), 2);
        DUES.due("settled already", x.settle(0, 0), 0);
        Rides.ride(x, 0, 0, 0, 0, 0, 300);
        DUES.due("a late tap", x.settle(0, 0), 2);
        DUES.due("purse", x.ofCard(0, 0), -4);
        DUES.due("the other person", x.settle(1, 0), 0);
    }

    private static void settleUpToTheLastClosedDay() {
        TapCap x = Rides.withCards(1);
        Rides.close(x, 2);
        for (int day = 0; day < 8; day++) {
            Rides.shortRides(x, 0, day, 1);
        }
        DUES.due("the days 0 and 1", x.settle(0, 0), 4);
        Rides.close(x, 6);
        DUES.due("the week 0: seven fares, all charged", x.settle(0, 0), 0);
        DUES.due("charged for the week 0", x.ofCard(0, 4), 14);
        DUES.due("charged for the week 1", x.ofCard(0, 5), 2);
        Rides.ride(x, 0, 0, 0, 0, 6, 300);
        DUES.due("the last day of the week 0", x.settle(0, 0), 2);
        Rides.ride(x, 0, 0, 0, 0, 7, 300);
        DUES.due("the week 1", x.settle(0, 1), 2);
    }

    private static void settleRefused() {
        TapCap x = Rides.withCards(2);
        x.tie(1, 0);
        DUES.refuses(x, "no day is closed", Rides.STATE, () -> x.settle(0, 0));
        Rides.close(x, 7);
        DUES.due("settle(0, 0)", x.settle(0, 0), 0);
        DUES.refuses(x, "no day of the week 1 is closed", Rides.STATE, () -> x.settle(0, 1));
        DUES.refuses(x, "settle(0, -1)", Rides.INDEX, () -> x.settle(0, -1));
        DUES.refuses(x, "settle(0, 4)", Rides.INDEX, () -> x.settle(0, 4));
        DUES.refuses(x, "settle(1, 0): no person", Rides.INDEX, () -> x.settle(1, 0));
        DUES.refuses(x, "settle(2, 0)", Rides.INDEX, () -> x.settle(2, 0));
        DUES.refuses(x, "settle(-1, 0)", Rides.INDEX, () -> x.settle(-1, 0));
        DUES.refuses(x, "settle(1, 3): the person first", Rides.INDEX, () -> x.settle(1, 3));
        Rides.close(x, 1);
        DUES.due("settle(0, 1)", x.settle(0, 1), 0);
    }

    private static void refund() {
        TapCap x = Rides.withZones();
        Rides.ride(x, 0, 0, 3, 0, 1, 100);
        Rides.ride(x, 0, 0, 3, 0, 3, 100);
        Rides.ride(x, 0, 0, 3, 0, 2, 100);
        Rides.ride(x, 0, 0, 3, 0, 2, 200);
        Rides.ride(x, 0, 0, 0, 1, 2, 300);
        Rides.ride(x, 0, 0, 1, 0, 2, 320);
        Rides.ride(x, 0, 0, 0, 1, 2, 400);
        x.late(0, 2, 30);
        DUES.due("the halves of 5, 5 and 3 (one of two lines)", x.refund(0, 0, 2), 5);
        DUES.due("in the purse", x.ofCard(0, 0), 5);
        DUES.due("refunds ever", x.many(8), 5);
        x.late(1, 2, 200);
        DUES.due("the halves of 3 and 2", x.refund(0, 1, 2), 2);
        DUES.due("refunds ever, both", x.many(8), 7);
        DUES.due("the other person has none", x.refund(1, 1, 2), 0);
        DUES.due("nobody is charged by it", x.many(7), 0);
        DUES.due("all purses", x.many(6), 7);
        Rides.ride(x, 1, 0, 3, 3, 8, 100);
        Rides.ride(x, 1, 0, 3, 4, 8, 120);
        x.late(4, 8, 77);
        DUES.due("its second leg is on that line", x.refund(1, 4, 8), 2);
    }

    private static void refundRefused() {
        TapCap x = Rides.withCards(2);
        x.tie(1, 0);
        DUES.refuses(x, "not late", Rides.STATE, () -> x.refund(0, 0, 0));
        x.late(0, 0, 29);
        DUES.refuses(x, "29 minutes", Rides.STATE, () -> x.refund(0, 0, 0));
        x.late(0, 0, 30);
        DUES.refuses(x, "another line", Rides.STATE, () -> x.refund(0, 1, 0));
        DUES.refuses(x, "another day", Rides.STATE, () -> x.refund(0, 0, 1));
        DUES.due("once, also if it is 0", x.refund(0, 0, 0), 0);
        Rides.shortRides(x, 0, 0, 1);
        DUES.refuses(x, "asked for before", Rides.STATE, () -> x.refund(0, 0, 0));
        DUES.refuses(x, "refund(1, 0, 0): no person", Rides.INDEX, () -> x.refund(1, 0, 0));
        DUES.refuses(x, "refund(-1, 0, 0)", Rides.INDEX, () -> x.refund(-1, 0, 0));
        DUES.refuses(x, "refund(2, 0, 0)", Rides.INDEX, () -> x.refund(2, 0, 0));
        DUES.refuses(x, "refund(0, -1, 0)", Rides.INDEX, () -> x.refund(0, -1, 0));
        DUES.refuses(x, "refund(0, 6, 0)", Rides.INDEX, () -> x.refund(0, 6, 0));
        DUES.refuses(x, "refund(0, 0, -1)", Rides.INDEX, () -> x.refund(0, 0, -1));
        DUES.refuses(x, "refund(0, 0, 28)", Rides.INDEX, () -> x.refund(0, 0, 28));
    }

    private static void refundStaysWithTheNumber() {
        TapCap x = Rides.withCards(3);
        Rides.shortRides(x, 2, 27, 2);
        x.late(0, 27, 31);
        x.late(5, 27, 31);
        x.late(0, 0, 31);
        DUES.due("of 2", x.refund(2, 0, 27), 2);
        DUES.due("of 2, another line", x.refund(2, 5, 27), 0);
        x.tie(2, 1);
        DUES.due("of 1, with the taps of 2", x.refund(1, 0, 27), 2);
        DUES.due("of 0", x.refund(0, 0, 27), 0);
        DUES.due("of 0, another day", x.refund(0, 0, 0), 0);
        DUES.due("the purse of 2", x.ofCard(2, 0), 2);
        DUES.due("the purse of 1", x.ofCard(1, 0), 2);
    }

    private static void refundOfEachByItself() {
        for (int first = 0; first <= 2; first += 2) {
            TapCap x = Rides.withCards(4);
            for (int place = 0; place < 6 * 28; place++) {
                int line = place / 28;
                int day = place % 28;
                x.late(line, day, 30);
                DUES.due("refund(" + (first + 1) + ", " + line + ", " + day + ")", x.refund(first + 1, line, day), 0);
                DUES.due("refund(" + first + ", " + line + ", " + day + ")", x.refund(first, line, day), 0);
            }
            int last = first + 1;
            DUES.refuses("the last one again", Rides.STATE, () -> x.refund(last, 5, 27));
            int other = first;
            DUES.refuses("the last one of the other again", Rides.STATE, () -> x.refund(other, 5, 27));
        }
    }
}
