import java.math.BigInteger;
import java.util.ArrayList;
import java.util.List;

/** A test for each sentence of the promises 23 to 26: what would be. */
public final class Promises23To26Test {
    private static final Sentences S = new Sentences("Promises23To26Test", "Promise 23", "Promise 24", "Promise 25",
            "Promise 26");
    private static final List<Stand> WITH_CARDS = Stand.withCards();

    public static void main(String[] args) {
        wouldCost();
        wouldCostInAnyState();
        wouldCostRefused();
        guess();
        guessRefused();
        worth();
        worthRefused();
        digest();
        S.end();
    }

    private static void wouldCost() {
        S.says("Promise 23", "Returns by how much the WEEK of that DAY would cost the PERSON more, if that TAP was kept, "
                + "too, as the last one that came");
        for (int day = 0; day < 28; day++) {
            S.answers(Stand.GIVEN, Call.of("wouldCost", 3, 0, 0, 1, day, 1439), 2);
            S.answers(Stand.GIVEN, Call.of("wouldCost", 3, 0, 0, 0, day, 0), 2);
        }
        Stand tied = Stand.GIVEN.then("zone", 1, 4).then("tie", 3, 1).then("tap", 1, 0, 0, 1, 6, 100);
        S.answers(tied, Call.of("wouldCost", 3, 1, 0, 0, 6, 110), 3);
        S.answers(tied, Call.of("wouldCost", 0, 1, 0, 0, 6, 110), 2);
        // The out makes a leg without a guess, by which the ins of later days of this week, not the next, go to 1.
        Stand later = tied.then("tap", 1, 0, 0, 1, 5, 100).then("tap", 1, 0, 0, 1, 7, 100);
        S.answers(later, Call.of("wouldCost", 1, 1, 0, 0, 6, 110), 3);
        S.answers(later, Call.of("wouldCost", 1, 1, 0, 0, 5, 110), 6);
        S.answers(Stand.GIVEN.then("tariff", 0, 9, 0, 9, 9).then("tap", 0, 0, 0, 1, 0, 0),
                Call.of("wouldCost", 0, 0, 0, 1, 6, 0), 0);
        Stand same = Stand.GIVEN.then("zone", 1, 4).then("tap", 0, 0, 0, 1, 0, 100).then("tap", 0, 0, 0, 0, 0, 110);
        // Behind the in of its minute it ends that leg; the out of the minute 110 is then by itself.
        S.answers(same, Call.of("wouldCost", 0, 1, 0, 0, 0, 100), 3);
        S.answers(same, Call.of("wouldCost", 0, 1, 0, 1, 0, 110), 3);
    }

    private static void wouldCostInAnyState() {
        S.says("Promise 23", "(it can be below 0; also if the CARD is LOST, it is DOUBLED, or 40 are kept).");
        Stand below = Stand.GIVEN.then("zone", 3, 4).then("tap", 0, 0, 0, 1, 0, 100).then("tap", 0, 3, 0, 0, 0, 131);
        // The ride for 5 falls into one of 2, and an out by itself 21 minutes behind it, of 2 as well.
        S.answers(below, Call.of("wouldCost", 0, 0, 0, 0, 0, 110), 4 - 5);
        Stand lost = Stand.GIVEN.then("lose", 3, 1);
        S.answers(lost, Call.of("wouldCost", 3, 9, 5, 1, 27, 1439), 2);
        S.answers(lost.then("wouldCost", 3, 9, 5, 1, 27, 1439), Call.of("many", 2), 0);
        // Kept once more, behind the in of its minute, it ends that leg; the out of 140 is a journey by itself then.
        Stand doubled = Stand.GIVEN.then("tap", 0, 0, 0, 0, 0, 100).then("tap", 0, 0, 0, 1, 0, 100)
                .then("tap", 0, 1, 0, 0, 0, 140).then("zone", 0, 4);
        S.answers(doubled, Call.of("tap", 0, 0, 0, 0, 0, 100), -3);
        S.answers(doubled, Call.of("wouldCost", 0, 0, 0, 0, 0, 100), 4 - 5);
        S.answers(doubled.then("wouldCost", 0, 0, 0, 0, 0, 100), Call.of("many", 3), 0);
        Stand full = Stand.GIVEN;
        for (int i = 0; i < 40; i++) {
            full = full.then("tap", i % 4, 0, 0, 1, i % 7, 20 * i);
        }
        S.answers(full, Call.of("wouldCost", 3, 9, 5, 1, 27, 0), 2);
        S.answers(full, Call.of("wouldCost", 0, 9, 5, 0, 14, 1439), 2);
        S.answers(full.then("wouldCost", 3, 9, 5, 1, 27, 0), Call.of("many", 1), 40);
        S.answers(full.then("wouldCost", 3, 9, 5, 1, 27, 0), Call.of("ofDay", 3, 27, 0), 0);
        Stand ofOne = Stand.GIVEN.then("tariff", 0, 1, 0, 50, 200);
        for (int i = 0; i < 40; i++) {
            ofOne = ofOne.then("tap", 0, 0, 0, 1, 0, 35 * i);
        }
        S.answers(ofOne, Call.of("ofWeek", 0, 0, 0), 40);
        S.answers(ofOne, Call.of("wouldCost", 0, 0, 0, 1, 0, 1439), 1);
        S.answers(ofOne, Call.of("wouldCost", 0, 0, 0, 1, 6, 1439), 1);
    }

    private static void wouldCostRefused() {
        S.says("Promise 23", "Throws `IndexOutOfBoundsException` if there is no such CARD, stop is not 0 to 9, line not "
                + "0 to 5, or day not 0 to 27");
        S.refusedWithoutCard(card -> Call.of("wouldCost", card, 0, 0, 1, 0, 0));
        S.refusedOutside(Rides.INDEX, WITH_CARDS, 0, 9, stop -> Call.of("wouldCost", 0, stop, 0, 1, 0, 0));
        S.refusedOutside(Rides.INDEX, WITH_CARDS, 0, 5, line -> Call.of("wouldCost", 0, 0, line, 1, 0, 0));
        S.refusedOutside(Rides.INDEX, WITH_CARDS, 0, 27, day -> Call.of("wouldCost", 0, 0, 0, 0, day, 0));
        S.answers(Stand.GIVEN, Call.of("wouldCost", 3, 9, 5, 0, 27, 1439), 2);
        S.says("Promise 23", "Throws `IllegalArgumentException` if minute is not 0 to 1439");
        S.refusedOutside(Rides.ARGUMENT, WITH_CARDS, 0, 1439, minute -> Call.of("wouldCost", 0, 0, 0, 1, 0, minute));
        S.answers(Stand.GIVEN, Call.of("wouldCost", 0, 0, 0, 0, 0, 0), 2);
    }

    private static void guess() {
        S.says("Promise 24", "Returns the GUESS of the other side.");
        Stand stand = Stand.GIVEN.then("tap", 3, 0, 0, 1, 26, 0).then("tap", 3, 9, 0, 0, 26, 9);
        for (int stop = 0; stop <= 9; stop++) {
            S.answers(Stand.GIVEN, Call.of("guess", 0, 0, stop, 1), stop);
            S.answers(Stand.GIVEN, Call.of("guess", 3, 27, stop, 0), stop);
            S.answers(stand, Call.of("guess", 3, 26, stop, 1), stop);
            S.answers(stand, Call.of("guess", 3, 27, stop, 1), stop == 0 ? 9 : stop);
            S.answers(stand, Call.of("guess", 3, 27, stop, 0), stop == 9 ? 0 : stop);
        }
    }

    private static void guessRefused() {
        S.says("Promise 24", "Throws `IndexOutOfBoundsException` if person is no PERSON, day is not 0 to 27, or stop is "
                + "not 0 to 9");
        S.refusedWithoutPerson(person -> Call.of("guess", person, 0, 0, 1));
        S.refusedOutside(Rides.INDEX, WITH_CARDS, 0, 27, day -> Call.of("guess", 0, day, 0, 0));
        S.refusedOutside(Rides.INDEX, WITH_CARDS, 0, 9, stop -> Call.of("guess", 0, 27, stop, 1));
        S.refusedOutside(Rides.INDEX, WITH_CARDS, 0, 9, stop -> Call.of("guess", 0, 0, stop, 0));
    }

    private static void worth() {
        S.says("Promise 25", "Returns by how much less the WEEK would cost, if all TAPS of that PERSON on that DAY were "
                + "not there (it can be 0, or below: GUESSES of later DAYS go by it).");
        Stand stand = Stand.GIVEN.then("tie", 3, 1);
        for (int day = 0; day < 28; day++) {
            S.answers(stand, Call.of("worth", 1, day / 7, day), 0);
            Stand one = stand.then("tap", 1, 0, 0, 1, day, 0).then("tap", 3, 0, 0, 1, day, 1439)
                    .then("tap", 0, 0, 0, 1, day, 0);
            S.answers(one, Call.of("worth", 1, day / 7, day), 4);
            S.answers(one, Call.of("worth", 0, day / 7, day), 2);
            S.answers(one.then("worth", 1, day / 7, day), Call.of("many", 1), 3);
        }
        Stand ticket = stand.then("tariff", 21, 9, 0, 9, 10);
        for (int day = 21; day < 28; day++) {
            ticket = ticket.then("tap", 1, 0, 0, 1, day, 0);
        }
        S.answers(ticket, Call.of("worth", 1, 3, 27), 0);
        Stand guessed = Stand.GIVEN.then("zone", 9, 4);
        int[] to = {9, 0};
        for (int day = 0; day < 2; day++) {
            guessed = guessed.then("tap", 0, 0, 0, 1, 1 - day, 0).then("tap", 0, to[day], 0, 0, 1 - day, 9);
        }
        for (int day = 2; day < 7; day++) {
            guessed = guessed.then("tap", 0, 0, 0, 1, day, 0);
        }
        // Of 0 and 9 once each the smallest; without the day 0 all five ins go to 9: by 15 more, a fare of 2 less.
        S.answers(guessed.then("tariff", 0, 2, 1, 50, 200), Call.of("worth", 0, 0, 0), 2 - 15);
        S.answers(guessed.then("tariff", 0, 2, 1, 50, 200), Call.of("worth", 0, 0, 1), 5);
    }

    private static void worthRefused() {
        S.says("Promise 25", "Throws `IndexOutOfBoundsException` if person is no PERSON, or week is not 0 to 3");
        S.refusedWithoutPerson(person -> Call.of("worth", person, 0, 0));
        S.refusedOutside(Rides.INDEX, WITH_CARDS, 0, 3, week -> Call.of("worth", 0, week, 0));
        S.refusedOutside(Rides.INDEX, WITH_CARDS, 0, 3, week -> Call.of("worth", 0, week, 7 * week));
        S.says("Promise 25", "Throws `IllegalArgumentException` if that DAY is not of that WEEK");
        for (int week = 0; week < 4; week++) {
            int its = week;
            S.refusedOutside(Rides.ARGUMENT, WITH_CARDS, 7 * week, 7 * week + 6, day -> Call.of("worth", 0, its, day));
            S.answers(Stand.GIVEN, Call.of("worth", 0, week, 7 * week), 0);
            S.answers(Stand.GIVEN, Call.of("worth", 0, week, 7 * week + 6), 0);
        }
        S.refused(Rides.ARGUMENT, Stand.FULL, List.of(Call.of("worth", 0, 3, 28), Call.of("worth", 0, 0, -1)));
    }

    private static void digest() {
        S.says("Promise 26", "Computes a checksum. A number d starts with 4806; then d becomes d * 31 + v, which wraps "
                + "around as a 64-bit integer, for each v in this order: many() of 0 to 8; CARD by CARD ofCard() of 0 "
                + "to 7; PERSON by PERSON (by numbers), each with all of these: DAY by DAY of 0 to 27 ofDay() of 0 to "
                + "7, and, if that has TAPS, share() of each CARRIER, and, LEG by LEG, ofLeg() of 0 to 6; WEEK by WEEK "
                + "ofWeek() of 0 to 2; guess() of the DAY 27, of each STOP as a beginning.");
        for (Stand stand : Stand.all()) {
            S.dueLong(stand + ": digest()", stand.made().digest(), wrapped(valuesOf(stand)));
        }
        Stand tied = Stand.FULL.then("tie", 1, 0).then("lose", 2, 1);
        S.dueLong("all full, tied: digest()", tied.made().digest(), wrapped(valuesOf(tied)));
        Stand late = Stand.GIVEN.then("tap", 0, 0, 0, 1, 26, 0).then("tap", 0, 9, 0, 0, 26, 9)
                .then("tap", 0, 1, 0, 1, 27, 0).then("tap", 0, 8, 0, 0, 27, 9);
        S.dueLong("with legs of the days 26 and 27: digest()", late.made().digest(), wrapped(valuesOf(late)));
        S.says("Promise 26", "Returns d.");
        // 4806 and nine numbers, of which but the tariffs are 0, do not reach what a long holds.
        long small = 4806L * 26439622160671L + 29791;
        S.dueLong("digest of a new object", new TapCap().digest(), small);
        TapCap x = Stand.FULL.made();
        S.dueLong("digest again", x.digest(), x.digest());
    }

    private static List<Integer> valuesOf(Stand stand) {
        List<Integer> values = new ArrayList<>();
        ask(values, stand, "many", 8);
        int cards = stand.made().many(0);
        for (int card = 0; card < cards; card++) {
            ask(values, stand, "ofCard", 7, card);
        }
        for (int person = 0; person < cards; person++) {
            if (stand.made().ofCard(person, 1) == person) {
                addPerson(values, stand, person);
            }
        }
        return values;
    }

    private static void addPerson(List<Integer> values, Stand stand, int person) {
        for (int day = 0; day < 28; day++) {
            ask(values, stand, "ofDay", 7, person, day);
            TapCap x = stand.made();
            for (int carrier = 0; carrier < 3 && x.ofDay(person, day, 0) > 0; carrier++) {
                values.add(x.share(carrier, person, day));
            }
            int legs = x.ofDay(person, day, 1);
            for (int leg = 0; leg < legs; leg++) {
                ask(values, stand, "ofLeg", 6, person, day, leg);
            }
        }
        for (int week = 0; week < 4; week++) {
            ask(values, stand, "ofWeek", 2, person, week);
        }
        for (int stop = 0; stop < 10; stop++) {
            values.add(stand.made().guess(person, 27, stop, true));
        }
    }

    /** Asks for each what, from 0 to the most. */
    private static void ask(List<Integer> values, Stand stand, String name, int most, int... numbers) {
        TapCap x = stand.made();
        for (int what = 0; what <= most; what++) {
            int[] all = new int[numbers.length + 1];
            System.arraycopy(numbers, 0, all, 0, numbers.length);
            all[numbers.length] = what;
            values.add(Integer.valueOf(Call.of(name, all).on(x)));
        }
    }

    /** Reckoned without a bound, of which the last 64 bits are left at the end. */
    private static long wrapped(List<Integer> values) {
        BigInteger d = BigInteger.valueOf(4806);
        for (int value : values) {
            d = d.multiply(BigInteger.valueOf(31)).add(BigInteger.valueOf(value));
        }
        return d.longValue();
    }
}
