import java.util.List;
import java.util.function.IntFunction;

/** A test for each sentence of the promises 14 to 22: what one asks. */
public final class Promises14To22Test {
    private static final Sentences S = new Sentences("Promises14To22Test", "Promise 14", "Promise 15", "Promise 16",
            "Promise 17", "Promise 18", "Promise 19", "Promise 20", "Promise 21", "Promise 22");
    private static final List<Stand> WITH_CARDS = Stand.withCards();

    public static void main(String[] args) {
        ofCard();
        ofCardRefused();
        ofDay();
        ofDayRefused();
        ofLeg();
        ofLegRefused();
        ofJourney();
        ofJourneyRefused();
        ofWeek();
        ofWeekRefused();
        share();
        check();
        checkEnds();
        checkRefused();
        many();
        meanFare();
        S.end();
    }

    private static void all(Stand stand, String name, int[] numbers, int... want) {
        for (int what = 0; what < want.length; what++) {
            int[] all = new int[numbers.length + 1];
            System.arraycopy(numbers, 0, all, 0, numbers.length);
            all[numbers.length] = what;
            S.answers(stand, Call.of(name, all), want[what]);
        }
    }

    /** Those numbers are answered first for what, and none outside is. */
    private static void whatIs(int most, IntFunction<Call> call) {
        S.refusedOutside(Rides.ARGUMENT, List.of(Stand.GIVEN.then("tap", 0, 0, 0, 1, 0, 0), Stand.FULL), 0, most, call);
    }

    private static void ofCard() {
        S.says("Promise 14", "- `what`: 0 its PURSE, 1 its PERSON, 2 1 if it is LOST, otherwise 0, 3 TAPS of it that are "
                + "kept, 4 to 7 what was CHARGED to the PERSON that is its number for the WEEKS 0 to 3 (with SETTLES) "
                + "Returns that.");
        for (int card = 0; card < 4; card++) {
            all(Stand.GIVEN, "ofCard", new int[] {card}, 0, card, 0, 0, 0, 0, 0, 0);
        }
        Stand stand = Stand.GIVEN.then("tie", 3, 1).then("lose", 0, 1).then("pay", 3, 999);
        for (int week = 0; week < 4; week++) {
            for (int k = 0; k <= week; k++) {
                stand = stand.then("tap", 3, 0, 0, 1, 7 * week + 6, 30 * k);
            }
        }
        Stand closed = stand.times(28, "close");
        all(closed, "ofCard", new int[] {0}, 0, 0, 1, 0, 0, 0, 0, 0);
        all(closed, "ofCard", new int[] {1}, -16, 1, 0, 0, 2, 4, 5, 5);
        all(closed, "ofCard", new int[] {3}, 999, 1, 0, 10, 0, 0, 0, 0);
        Stand settled = closed.then("tie", 3, 2).then("settle", 1, 3).then("settle", 2, 1).then("settle", 2, 3);
        all(settled, "ofCard", new int[] {1}, -11, 1, 0, 0, 2, 4, 5, 0);
        all(settled, "ofCard", new int[] {2}, -9, 2, 0, 0, 0, 4, 0, 5);
    }

    private static void ofCardRefused() {
        S.says("Promise 14", "Throws `IndexOutOfBoundsException` if there is no such CARD");
        S.refusedWithoutCard(card -> Call.of("ofCard", card, 0));
        S.refusedWithoutCard(card -> Call.of("ofCard", card, 7));
        S.answers(Stand.SOME, Call.of("ofCard", 2, 1), 1);
        S.says("Promise 14", "Throws `IllegalArgumentException` if what is not 0 to 7");
        whatIs(7, what -> Call.of("ofCard", 0, what));
        S.refusedOutside(Rides.ARGUMENT, List.of(Stand.FULL), 0, 7, what -> Call.of("ofCard", 3, what));
        S.answers(Stand.GIVEN, Call.of("ofCard", 3, 7), 0);
    }

    private static void ofDay() {
        S.says("Promise 15", "- `what`: 0 TAPS, 1 LEGS, 2 JOURNEYS, 3 LEGS with a GUESS, 4 all FARES, 5 what the DAY "
                + "costs by itself, 6 the z of its DAY TICKET by itself (0 without one), 7 what it costs within its "
                + "WEEK (without the WEEK TICKET) Returns that.");
        for (int day = 0; day < 28; day++) {
            all(Stand.GIVEN, "ofDay", new int[] {3, day}, 0, 0, 0, 0, 0, 0, 0, 0);
        }
        Stand stand = Stand.GIVEN.then("tap", 3, 1, 0, 1, 27, 0).then("tap", 3, 1, 0, 1, 27, 3)
                .then("tap", 3, 2, 0, 0, 27, 10).then("tap", 3, 1, 0, 1, 27, 30).then("tap", 3, 1, 0, 1, 27, 100);
        all(stand, "ofDay", new int[] {3, 27}, 5, 3, 2, 2, 4, 4, 0, 4);
        all(stand.then("tariff", 27, 9, 0, 8, 200), "ofDay", new int[] {3, 27}, 5, 3, 2, 2, 18, 8, 1, 8);
        all(stand.then("tariff", 0, 9, 0, 8, 7), "ofDay", new int[] {3, 27}, 5, 3, 2, 2, 18, 8, 1, 0);
        all(stand, "ofDay", new int[] {3, 26}, 0, 0, 0, 0, 0, 0, 0, 0);
        all(stand, "ofDay", new int[] {2, 27}, 0, 0, 0, 0, 0, 0, 0, 0);
        Stand forty = Stand.GIVEN;
        for (int i = 0; i < 40; i++) {
            forty = forty.then("tap", 0, 9, 5, 0, 0, 36 * i);
        }
        all(forty, "ofDay", new int[] {0, 0}, 40, 40, 40, 40, 80, 5, 1, 5);
        Stand behind = forty.then("tariff", 0, 2, 1, 5, 4).then("ofDay", 0, 0, 6);
        all(behind, "ofDay", new int[] {1, 0}, 0, 0, 0, 0, 0, 0, 0, 0);
        all(behind, "ofDay", new int[] {0, 1}, 0, 0, 0, 0, 0, 0, 0, 0);
    }

    private static void ofDayRefused() {
        S.says("Promise 15", "Throws `IndexOutOfBoundsException` if person is no PERSON, or day is not 0 to 27");
        S.refusedWithoutPerson(person -> Call.of("ofDay", person, 0, 0));
        S.refusedOutside(Rides.INDEX, WITH_CARDS, 0, 27, day -> Call.of("ofDay", 0, day, 0));
        S.refusedOutside(Rides.INDEX, WITH_CARDS, 0, 27, day -> Call.of("ofDay", 1, day, 7));
        S.answers(Stand.GIVEN, Call.of("ofDay", 3, 27, 7), 0);
        S.says("Promise 15", "Throws `IllegalArgumentException` if what is not 0 to 7");
        whatIs(7, what -> Call.of("ofDay", 0, 0, what));
        S.refusedOutside(Rides.ARGUMENT, WITH_CARDS, 0, 7, what -> Call.of("ofDay", 0, 27, what));
    }

    private static void ofLeg() {
        S.says("Promise 16", "- `what`: 0 the STOP where it begins, 1 where it ends, 2 and 3 these minutes, 4 its LINE, "
                + "5 0 without a GUESS, 1 if the beginning is one, 2 if the end is, 6 the JOURNEY that it is of (from "
                + "0) Returns that.");
        Stand stand = Stand.GIVEN.then("tap", 2, 1, 5, 1, 26, 100).then("tap", 2, 9, 4, 0, 26, 110)
                .then("tap", 2, 1, 3, 1, 27, 0).then("tap", 2, 0, 2, 0, 27, 20).then("tap", 2, 9, 1, 0, 27, 40)
                .then("tap", 2, 1, 0, 1, 27, 61).then("tap", 2, 1, 5, 1, 27, 1439);
        all(stand, "ofLeg", new int[] {2, 26, 0}, 1, 9, 100, 110, 5, 0, 0);
        all(stand, "ofLeg", new int[] {2, 27, 0}, 1, 0, 0, 20, 3, 0, 0);
        all(stand, "ofLeg", new int[] {2, 27, 1}, 1, 9, 40, 40, 1, 1, 0);
        all(stand, "ofLeg", new int[] {2, 27, 2}, 1, 9, 61, 61, 0, 2, 1);
        all(stand, "ofLeg", new int[] {2, 27, 3}, 1, 9, 1439, 1439, 5, 2, 2);
    }

    private static void ofLegRefused() {
        S.says("Promise 16", "Throws `IndexOutOfBoundsException` if person is no PERSON, day is not 0 to 27, or there is "
                + "no such LEG");
        S.refusedWithoutPerson(person -> Call.of("ofLeg", person, 0, 0, 0));
        S.refusedOutside(Rides.INDEX, WITH_CARDS, 0, 27, day -> Call.of("ofLeg", 0, day, 0, 0));
        S.refusedOutside(Rides.INDEX, List.of(Stand.GIVEN), 0, -1, k -> Call.of("ofLeg", 0, 0, k, 0));
        Stand two = Stand.GIVEN.then("tap", 0, 0, 0, 1, 0, 0).then("tap", 0, 0, 0, 1, 0, 99)
                .then("tap", 0, 0, 0, 1, 1, 0).then("tap", 1, 0, 0, 1, 0, 500);
        S.refusedOutside(Rides.INDEX, List.of(two), 0, 1, k -> Call.of("ofLeg", 0, 0, k, 0));
        S.refusedOutside(Rides.INDEX, List.of(two), 0, 0, k -> Call.of("ofLeg", 0, 1, k, 0));
        S.refused(Rides.INDEX, two, List.of(Call.of("ofLeg", 0, 2, 0, 0), Call.of("ofLeg", 2, 0, 0, 0)));
        S.answers(two, Call.of("ofLeg", 0, 0, 1, 2), 99);
        S.answers(two, Call.of("ofLeg", 1, 0, 0, 2), 500);
        Stand forty = Stand.GIVEN;
        for (int i = 0; i < 40; i++) {
            forty = forty.then("tap", 0, 9, 5, 1, 27, 36 * i);
        }
        S.answers(forty, Call.of("ofLeg", 0, 27, 39, 6), 39);
        S.refused(Rides.INDEX, forty, "ofLeg", 0, 27, 40, 6);
        S.says("Promise 16", "Throws `IllegalArgumentException` if what is not 0 to 6");
        whatIs(6, what -> Call.of("ofLeg", 0, 0, 0, what));
    }

    private static void ofJourney() {
        S.says("Promise 17", "- `what`: 0 its LEGS, 1 how many ZONES it touches, 2 its TOP, 3 its FARE Returns that.");
        Stand stand = Stand.GIVEN.then("zone", 1, 3).then("zone", 2, 4).then("tap", 2, 1, 0, 1, 27, 100)
                .then("tap", 2, 2, 0, 0, 27, 110).then("tap", 2, 1, 0, 1, 27, 130).then("tap", 2, 0, 0, 1, 27, 1439);
        all(stand, "ofJourney", new int[] {2, 27, 0}, 2, 2, 4, 3);
        all(stand, "ofJourney", new int[] {2, 27, 1}, 1, 1, 1, 2);
        all(stand.then("zone", 2, 1).then("tariff", 27, 9, 5, 1, 1), "ofJourney", new int[] {2, 27, 0}, 2, 3, 3, 19);
    }

    private static void ofJourneyRefused() {
        S.says("Promise 17", "Throws `IndexOutOfBoundsException` if person is no PERSON, day is not 0 to 27, or there is "
                + "no such JOURNEY");
        S.refusedWithoutPerson(person -> Call.of("ofJourney", person, 0, 0, 0));
        S.refusedOutside(Rides.INDEX, WITH_CARDS, 0, 27, day -> Call.of("ofJourney", 0, day, 0, 0));
        S.refusedOutside(Rides.INDEX, List.of(Stand.GIVEN), 0, -1, k -> Call.of("ofJourney", 0, 0, k, 0));
        // Three legs, but two journeys; one more of the next day, and one of another person.
        Stand two = Stand.GIVEN.then("tap", 0, 0, 0, 1, 0, 0).then("tap", 0, 0, 0, 1, 0, 20)
                .then("tap", 0, 0, 0, 1, 0, 99).then("tap", 0, 0, 0, 1, 1, 0).then("tap", 1, 0, 0, 1, 0, 500);
        S.refusedOutside(Rides.INDEX, List.of(two), 0, 1, k -> Call.of("ofJourney", 0, 0, k, 0));
        S.refusedOutside(Rides.INDEX, List.of(two), 0, 0, k -> Call.of("ofJourney", 0, 1, k, 0));
        S.refused(Rides.INDEX, two, "ofJourney", 0, 2, 0, 0);
        S.answers(two, Call.of("ofJourney", 0, 0, 0, 0), 2);
        S.answers(two, Call.of("ofJourney", 0, 0, 1, 0), 1);
        Stand forty = Stand.GIVEN;
        for (int i = 0; i < 40; i++) {
            forty = forty.then("tap", 0, 9, 5, 1, 27, 36 * i);
        }
        S.answers(forty, Call.of("ofJourney", 0, 27, 39, 3), 2);
        S.refused(Rides.INDEX, forty, "ofJourney", 0, 27, 40, 3);
        S.says("Promise 17", "Throws `IllegalArgumentException` if what is not 0 to 3");
        whatIs(3, what -> Call.of("ofJourney", 0, 0, 0, what));
    }

    private static void ofWeek() {
        S.says("Promise 18", "- `what`: 0 what it costs, 1 the z of its WEEK TICKET (0 without one), 2 what all its DAYS "
                + "cost, each by itself Returns that.");
        Stand stand = Stand.GIVEN.then("tariff", 21, 9, 0, 50, 10);
        for (int week = 0; week < 4; week++) {
            all(Stand.GIVEN, "ofWeek", new int[] {3, week}, 0, 0, 0);
            stand = stand.then("tap", 3, 0, 0, 1, 7 * week, 0).then("tap", 3, 0, 0, 1, 7 * week + 6, 0);
        }
        for (int week = 0; week < 3; week++) {
            all(stand, "ofWeek", new int[] {3, week}, 4, 0, 4);
        }
        all(stand, "ofWeek", new int[] {3, 3}, 10, 1, 18);
        all(stand.times(28, "close"), "ofWeek", new int[] {3, 3}, 10, 1, 18);
        all(stand.then("zone", 0, 4), "ofWeek", new int[] {3, 3}, 10, 4, 18);
    }

    private static void ofWeekRefused() {
        S.says("Promise 18", "Throws `IndexOutOfBoundsException` if person is no PERSON, or week is not 0 to 3");
        S.refusedWithoutPerson(person -> Call.of("ofWeek", person, 0, 0));
        S.refusedOutside(Rides.INDEX, WITH_CARDS, 0, 3, week -> Call.of("ofWeek", 0, week, 0));
        S.answers(Stand.GIVEN, Call.of("ofWeek", 3, 3, 2), 0);
        S.says("Promise 18", "Throws `IllegalArgumentException` if what is not 0 to 2");
        whatIs(2, what -> Call.of("ofWeek", 0, 0, what));
        S.refusedOutside(Rides.ARGUMENT, WITH_CARDS, 0, 2, what -> Call.of("ofWeek", 0, 3, what));
    }

    private static void share() {
        S.says("Promise 19", "Returns its SHARE.");
        for (int carrier = 0; carrier < 3; carrier++) {
            Stand stand = Stand.GIVEN.then("carrier", 5, carrier).then("tap", 3, 0, 5, 1, 27, 0);
            for (int other = 0; other < 3; other++) {
                S.answers(stand, Call.of("share", other, 3, 27), other == carrier ? 2 : 0);
                S.answers(stand, Call.of("share", other, 3, 26), 0);
                S.answers(stand, Call.of("share", other, 2, 27), 0);
            }
        }
        S.says("Promise 19", "Throws `IndexOutOfBoundsException` if carrier is not 0 to 2, person is no PERSON, or day "
                + "is not 0 to 27");
        S.refusedOutside(Rides.INDEX, WITH_CARDS, 0, 2, carrier -> Call.of("share", carrier, 0, 0));
        S.refusedWithoutPerson(person -> Call.of("share", 0, person, 0));
        S.refusedOutside(Rides.INDEX, WITH_CARDS, 0, 27, day -> Call.of("share", 0, 0, day));
        S.refusedOutside(Rides.INDEX, WITH_CARDS, 0, 27, day -> Call.of("share", 2, 1, day));
    }

    private static void check() {
        S.says("Promise 20", "An inspector asks.");
        for (int card = 0; card < 4; card++) {
            for (int day = 0; day < 28; day += 9) {
                S.answers(Stand.GIVEN, Call.of("check", card, day, 0), 0);
                S.answers(Stand.GIVEN, Call.of("check", card, day, 1439), 0);
                Stand stand = Stand.GIVEN.then("tap", card, 0, 0, 1, day, 1439);
                S.answers(stand, Call.of("check", card, day, 1439), 1);
                S.answers(stand, Call.of("check", card, day, 1438), 0);
                S.answers(stand, Call.of("check", (card + 1) % 4, day, 1439), 0);
                S.answers(stand, Call.of("check", card, (day + 1) % 28, 0), 0);
            }
        }
        S.answers(Stand.FULL.then("check", 0, 0, 10), Call.of("digest"), Stand.FULL.made().digest());
    }

    private static void checkEnds() {
        S.says("Promise 20", "Returns 2, if it is LOST; 1, if a LEG of its PERSON on that DAY, whose beginning is no "
                + "GUESS, began in that minute or ahead of it, and ends in it or later (one whose end is a GUESS: 120 "
                + "minutes behind its beginning); otherwise 0.");
        TapCap x = Rides.withCards(2);
        x.tap(0, 1, 0, true, 27, 200);
        int[][] open = {{0, 0}, {199, 0}, {200, 1}, {201, 1}, {319, 1}, {320, 1}, {321, 0}, {1439, 0}};
        for (int[] one : open) {
            S.due("open, check(0, 27, " + one[0] + ")", x.check(0, 27, one[0]), one[1]);
        }
        x.tap(0, 2, 0, false, 27, 700);
        int[][] ended = {{0, 0}, {199, 0}, {200, 1}, {201, 1}, {321, 1}, {699, 1}, {700, 1}, {701, 0}, {1439, 0}};
        for (int[] one : ended) {
            S.due("ended, check(0, 27, " + one[0] + ")", x.check(0, 27, one[0]), one[1]);
        }
        x.tap(0, 3, 0, false, 27, 900);
        int[][] byItself = {{899, 0}, {900, 0}, {901, 0}, {1020, 0}};
        for (int[] one : byItself) {
            S.due("an out by itself, check(0, 27, " + one[0] + ")", x.check(0, 27, one[0]), one[1]);
        }
        x.tap(0, 4, 0, true, 27, 1400);
        S.due("to the last minute", x.check(0, 27, 1439), 1);
        x.tap(0, 5, 0, true, 26, 1439);
        S.due("not into the next day", x.check(0, 27, 0), 0);
        S.due("the other person", x.check(1, 27, 500), 0);
        x.tie(1, 0);
        S.due("by a card of the same person", x.check(1, 27, 500), 1);
        x.lose(0, true);
        S.due("lost", x.check(0, 27, 0), 2);
        S.due("lost, within a leg", x.check(0, 27, 500), 2);
        S.due("the other card is not", x.check(1, 27, 500), 1);
        x.lose(0, false);
        S.due("found", x.check(0, 27, 500), 1);
    }

    private static void checkRefused() {
        S.says("Promise 20", "Throws `IndexOutOfBoundsException` if there is no such CARD, or day is not 0 to 27");
        S.refusedWithoutCard(card -> Call.of("check", card, 0, 0));
        S.refusedOutside(Rides.INDEX, WITH_CARDS, 0, 27, day -> Call.of("check", 0, day, 0));
        S.refusedOutside(Rides.INDEX, WITH_CARDS, 0, 27, day -> Call.of("check", 1, day, 1439));
        S.says("Promise 20", "Throws `IllegalArgumentException` if minute is not 0 to 1439");
        S.refusedOutside(Rides.ARGUMENT, WITH_CARDS, 0, 1439, minute -> Call.of("check", 0, 0, minute));
        S.refusedOutside(Rides.ARGUMENT, WITH_CARDS, 0, 1439, minute -> Call.of("check", 1, 27, minute));
    }

    private static void many() {
        S.says("Promise 21", "- `what`: 0 CARDS, 1 TAPS that are kept, 2 DENIED ever, 3 DOUBLED ever, 4 CLOSED DAYS, 5 "
                + "TARIFFS, 6 all PURSES, 7 what was CHARGED ever (with SETTLES; less what was paid back), 8 REFUNDS "
                + "ever (coins) Returns that.");
        all(Stand.NEW, "many", new int[] {}, 0, 0, 0, 0, 0, 1, 0, 0, 0);
        all(Stand.GIVEN, "many", new int[] {}, 4, 0, 0, 0, 0, 1, 0, 0, 0);
        Stand stand = Stand.GIVEN.then("tap", 3, 0, 5, 1, 27, 0).then("tap", 3, 0, 5, 1, 27, 0)
                .then("lose", 3, 1).then("tap", 3, 0, 5, 1, 27, 0).then("tap", 3, 1, 5, 1, 27, 0).then("lose", 3, 0)
                .then("late", 5, 27, 30).then("refund", 3, 5, 27).then("tariff", 27, 9, 0, 50, 200).times(28, "close");
        all(stand, "many", new int[] {}, 4, 1, 2, 1, 28, 2, 1 - 9, 9, 1);
        Stand tied = stand.then("tie", 3, 0).then("refund", 0, 5, 27).then("settle", 0, 3).then("pay", 3, 100);
        all(tied, "many", new int[] {}, 4, 1, 2, 1, 28, 2, 1 - 9 + 4 - 9 + 100, 18, 5);
        Stand back = tied.then("tie", 3, 1).then("settle", 0, 3);
        all(back, "many", new int[] {}, 4, 1, 2, 1, 28, 2, 1 - 9 + 4 + 100, 9, 5);
        S.says("Promise 21", "Throws `IllegalArgumentException` if what is not 0 to 8");
        S.refusedOutside(Rides.ARGUMENT, Stand.all(), 0, 8, what -> Call.of("many", what));
    }

    private static void meanFare() {
        S.says("Promise 22", "Returns the mean FARE of all JOURNEYS of all PERSONS on that DAY, not rounded; 0 without "
                + "any.");
        for (int day = 0; day < 28; day++) {
            S.answers(Stand.NEW, Call.of("meanFare", day), 0.0);
            S.answers(Stand.GIVEN, Call.of("meanFare", day), 0.0);
        }
        Stand stand = Stand.GIVEN.then("zone", 1, 2).then("zone", 2, 4).then("tap", 0, 0, 0, 1, 27, 0)
                .then("tap", 0, 2, 0, 0, 27, 9);
        S.answers(stand, Call.of("meanFare", 27), 5.0);
        S.answers(stand, Call.of("meanFare", 26), 0.0);
        Stand three = stand.then("tap", 3, 0, 0, 1, 27, 0).then("tap", 3, 0, 0, 1, 27, 100);
        S.answers(three, Call.of("meanFare", 27), (5 + 2 + 2) / 3.0);
        Stand four = three.then("tap", 2, 0, 0, 1, 27, 0).then("tap", 2, 1, 0, 0, 27, 9);
        S.answers(four, Call.of("meanFare", 27), (5 + 2 + 2 + 3) / 4.0);
        Stand seven = four.then("tap", 1, 0, 0, 1, 27, 0).then("tap", 1, 0, 0, 1, 27, 50).then("tap", 1, 1, 0, 0, 27, 99);
        S.answers(seven, Call.of("meanFare", 27), (5 + 2 + 2 + 3 + 2 + 3) / 6.0);
        S.answers(three.then("tariff", 27, 9, 5, 1, 1), Call.of("meanFare", 27), (24 + 9 + 9) / 3.0);
        S.answers(three.then("tie", 3, 0), Call.of("meanFare", 27), (5 + 2) / 2.0);
        S.says("Promise 22", "Throws `IndexOutOfBoundsException` if day is not 0 to 27");
        S.refusedOutside(Rides.INDEX, Stand.all(), 0, 27, day -> Call.of("meanFare", day));
    }
}
