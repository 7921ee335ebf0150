import java.util.List;

/** A test for each sentence of the promises 10 to 13: what is done. */
public final class Promises10To13Test {
    private static final Sentences S = new Sentences("Promises10To13Test", "Promise 10", "Promise 11", "Promise 12",
            "Promise 13");
    private static final List<Stand> WITH_CARDS = Stand.withCards();

    public static void main(String[] args) {
        tap();
        tapReturns();
        tapIndex();
        tapArgument();
        tapState();
        close();
        closeRefused();
        settle();
        settleRefused();
        refund();
        refundRefused();
        S.end();
    }

    private static void tap() {
        S.says("Promise 10", "A TAP comes.");
        Stand in = Stand.GIVEN.then("tap", 3, 9, 5, 1, 27, 1439);
        int[] want = {9, 9, 1439, 1439, 5, 2, 0};
        for (int what = 0; what < want.length; what++) {
            S.answers(in, Call.of("ofLeg", 3, 27, 0, what), want[what]);
        }
        Stand out = Stand.GIVEN.then("tap", 0, 0, 0, 0, 0, 0);
        int[] first = {0, 0, 0, 0, 0, 1, 0};
        for (int what = 0; what < first.length; what++) {
            S.answers(out, Call.of("ofLeg", 0, 0, 0, what), first[what]);
        }
    }

    private static void tapReturns() {
        S.says("Promise 10", "Returns how many are kept then; -2, if it is DENIED; -3, if it is DOUBLED.");
        TapCap x = Rides.withCards(2);
        x.lose(1, true);
        for (int count = 1; count <= 40; count++) {
            S.due("denied", x.tap(1, 0, 0, true, 0, count), -2);
            S.due("kept", x.tap(0, 0, 0, true, 0, count), count);
            S.due("doubled", x.tap(0, 0, 0, true, 0, count), -3);
        }
        S.due("kept", x.many(1), 40);
        S.due("denied", x.many(2), 40);
        S.due("doubled", x.many(3), 40);
    }

    private static void tapIndex() {
        S.says("Promise 10", "Throws `IndexOutOfBoundsException` if there is no such CARD, stop is not 0 to 9, line not "
                + "0 to 5, or day not 0 to 27");
        S.refusedWithoutCard(card -> Call.of("tap", card, 0, 0, 1, 0, 0));
        S.refusedOutside(Rides.INDEX, WITH_CARDS, 0, 9, stop -> Call.of("tap", 0, stop, 0, 1, 0, 0));
        S.refusedOutside(Rides.INDEX, WITH_CARDS, 0, 5, line -> Call.of("tap", 0, 0, line, 1, 0, 0));
        S.refusedOutside(Rides.INDEX, WITH_CARDS, 0, 27, day -> Call.of("tap", 0, 0, 0, 0, day, 0));
        int[][] inside = {{0, 9, 0, 1, 0, 0}, {0, 0, 5, 0, 0, 0}, {0, 0, 0, 1, 27, 0}, {3, 0, 0, 0, 0, 0}};
        for (int[] numbers : inside) {
            S.answers(Stand.GIVEN, Call.of("tap", numbers), 1);
        }
    }

    private static void tapArgument() {
        S.says("Promise 10", "Throws `IllegalArgumentException` if minute is not 0 to 1439");
        S.refusedOutside(Rides.ARGUMENT, WITH_CARDS, 0, 1439, minute -> Call.of("tap", 0, 0, 0, 1, 0, minute));
        S.refusedOutside(Rides.ARGUMENT, WITH_CARDS, 0, 1439, minute -> Call.of("tap", 1, 9, 5, 0, 27, minute));
        S.answers(Stand.GIVEN, Call.of("tap", 0, 0, 0, 1, 0, 0), 1);
        S.answers(Stand.GIVEN, Call.of("tap", 0, 0, 0, 1, 0, 1439), 1);
    }

    private static void tapState() {
        S.says("Promise 10", "Throws `IllegalStateException` if it would be kept, and 40 are");
        S.answers(Stand.FULL, Call.of("many", 1), 40);
        for (int card = 0; card < 4; card++) {
            S.refused(Rides.STATE, Stand.FULL, List.of(Call.of("tap", card, 0, 0, 1, 0, 0),
                    Call.of("tap", card, 0, 0, 1, 0, 0), Call.of("tap", card, 9, 5, 0, 27, 1439)));
            S.answers(Stand.FULL.then("lose", card, 1), Call.of("tap", card, 9, 5, 0, 27, 1439), -2);
        }
        Stand last = Stand.GIVEN;
        for (int i = 0; i < 39; i++) {
            last = last.then("tap", 0, 0, 0, 1, 0, i);
        }
        S.answers(last, Call.of("tap", 0, 0, 0, 1, 0, 38), -3);
        S.answers(last, Call.of("tap", 0, 0, 0, 1, 0, 39), 40);
    }

    private static void close() {
        S.says("Promise 11", "CLOSES the next DAY.");
        TapCap x = Rides.withCards(1);
        for (int day = 0; day < 28; day++) {
            x.tap(0, 0, 0, true, day, 0);
            S.due("the day " + day, x.close(), 2);
            S.due("closed", x.many(4), day + 1);
        }
        S.says("Promise 11", "Returns what all were CHARGED.");
        TapCap y = Rides.withCards(4);
        for (int card = 0; card < 4; card++) {
            Rides.ins(y, card, 0, 27, card);
        }
        for (int day = 0; day < 27; day++) {
            S.due("nothing on the day " + day, y.close(), 0);
        }
        S.due("2, 4 and the ticket for 5", y.close(), 11);
        S.due("charged ever", y.many(7), 11);
        S.answers(Stand.NEW.times(27, "close"), Call.of("close"), 0);
    }

    private static void closeRefused() {
        S.says("Promise 11", "Throws `IllegalStateException` if all are CLOSED");
        S.answers(Stand.GIVEN.times(27, "close"), Call.of("close"), 0);
        S.refused(Rides.STATE, Stand.NEW.times(28, "close"), List.of(Call.of("close"), Call.of("close")));
        S.refused(Rides.STATE, Stand.FULL, List.of(Call.of("close"), Call.of("close")));
    }

    private static void settle() {
        S.says("Promise 12", "SETTLES a WEEK.");
        for (int week = 0; week < 4; week++) {
            Stand stand = Stand.GIVEN.times(28, "close").then("tap", 3, 0, 0, 1, 7 * week + 6, 0)
                    .then("settle", 3, week);
            for (int other = 0; other < 4; other++) {
                S.answers(stand, Call.of("ofCard", 3, 4 + other), other == week ? 2 : 0);
                S.answers(stand, Call.of("ofCard", other, 0), other == 3 ? -2 : 0);
            }
            S.answers(stand, Call.of("many", 7), 2);
        }
        S.says("Promise 12", "Returns what the PERSON is CHARGED (below 0: what is paid back).");
        Stand closed = Stand.GIVEN.then("tap", 0, 0, 0, 1, 27, 0).times(28, "close");
        S.answers(closed, Call.of("settle", 0, 3), 0);
        S.answers(closed.then("tap", 0, 0, 0, 1, 27, 100), Call.of("settle", 0, 3), 2);
        Stand tied = Stand.GIVEN.then("tap", 3, 0, 0, 1, 27, 0).then("tie", 3, 1).times(28, "close").then("tie", 3, 0);
        S.answers(tied, Call.of("settle", 1, 3), -2);
        S.answers(tied, Call.of("settle", 0, 3), 2);
        S.answers(tied.then("settle", 1, 3), Call.of("ofCard", 1, 0), 0);
    }

    private static void settleRefused() {
        S.says("Promise 12", "Throws `IndexOutOfBoundsException` if person is no PERSON, or week is not 0 to 3");
        S.refusedWithoutPerson(person -> Call.of("settle", person, 0));
        S.refusedOutside(Rides.INDEX, WITH_CARDS, 0, 3, week -> Call.of("settle", 0, week));
        S.answers(Stand.FULL, Call.of("settle", 0, 3), 0);
        S.says("Promise 12", "Throws `IllegalStateException` if no DAY of it is CLOSED");
        for (int week = 0; week < 4; week++) {
            Stand none = Stand.GIVEN.times(7 * week, "close");
            S.refused(Rides.STATE, none, "settle", 0, week);
            S.refused(Rides.STATE, none, "settle", 3, 3);
            S.answers(none.then("close"), Call.of("settle", 0, week), 0);
        }
    }

    private static void refund() {
        S.says("Promise 13", "Asks for a REFUND.");
        Stand late = Stand.GIVEN.then("late", 5, 27, 30).then("tap", 3, 0, 5, 1, 27, 0);
        Stand asked = late.then("refund", 3, 5, 27);
        S.answers(asked, Call.of("ofCard", 3, 0), 1);
        S.answers(asked, Call.of("many", 6), 1);
        S.answers(asked, Call.of("many", 8), 1);
        S.answers(asked, Call.of("many", 7), 0);
        S.answers(asked, Call.of("ofDay", 3, 27, 5), 2);
        S.says("Promise 13", "Returns how much it is.");
        S.answers(late, Call.of("refund", 3, 5, 27), 1);
        S.answers(late, Call.of("refund", 0, 5, 27), 0);
        S.answers(late.then("tap", 3, 0, 5, 1, 27, 100), Call.of("refund", 3, 5, 27), 2);
        S.answers(late.times(28, "close"), Call.of("refund", 3, 5, 27), 1);
    }

    private static void refundRefused() {
        S.says("Promise 13", "Throws `IndexOutOfBoundsException` if person is no PERSON, line is not 0 to 5, or day is "
                + "not 0 to 27");
        S.refusedWithoutPerson(person -> Call.of("refund", person, 0, 0));
        S.refusedOutside(Rides.INDEX, WITH_CARDS, 0, 5, line -> Call.of("refund", 0, line, 0));
        S.refusedOutside(Rides.INDEX, WITH_CARDS, 0, 27, day -> Call.of("refund", 0, 0, day));
        S.refusedOutside(Rides.INDEX, WITH_CARDS, 0, 27, day -> Call.of("refund", 0, 5, day));
        S.answers(Stand.FULL, Call.of("refund", 0, 5, 27), 0);
        S.says("Promise 13", "Throws `IllegalStateException` if that LINE is not 30 minutes or more late, or it was "
                + "asked for");
        S.refused(Rides.STATE, Stand.GIVEN, List.of(Call.of("refund", 0, 0, 0), Call.of("refund", 3, 5, 27)));
        S.refused(Rides.STATE, Stand.GIVEN.then("late", 5, 27, 29), "refund", 0, 5, 27);
        S.refused(Rides.STATE, Stand.SOME, List.of(Call.of("refund", 0, 1, 0), Call.of("refund", 1, 2, 9)));
        S.refused(Rides.STATE, Stand.FULL, List.of(Call.of("refund", 0, 0, 0), Call.of("refund", 2, 1, 27)));
        S.answers(Stand.SOME, Call.of("refund", 1, 1, 0), 0);
    }
}
