import java.util.List;

/** A test for each sentence that holds for every promise. */
public final class EveryPromiseTest {
    private static final Sentences S = new Sentences("EveryPromiseTest", "Every promise");
    private static final int MOST_CALLS = 512;

    public static void main(String[] args) {
        fiveHundredAndTwelveCalls();
        wholeNumbers();
        throwingChangesNothing();
        firstOfWhatIsTold();
        firstOfWhatIsDone();
        firstOfWhatIsAsked();
        askingChangesNothing();
        whatWouldBeChangesNothing();
        S.end();
    }

    private static void fiveHundredAndTwelveCalls() {
        S.says("What it is", "An object is used for at most 512 calls after it has been made;");
        TapCap x = Rides.withCards(1);
        for (int calls = 1; calls < MOST_CALLS - 1; calls++) {
            x.pay(0, 999);
        }
        S.due("the call 512", x.ofCard(0, 0), 999 * (MOST_CALLS - 2));
        TapCap y = Rides.withCards(1);
        for (int calls = 1; calls < MOST_CALLS - 1; calls++) {
            y.tap(0, 0, 0, true, 0, 0);
        }
        S.due("the call 512", y.many(3), MOST_CALLS - 3);
        for (Stand stand : Stand.all()) {
            lastOfManyAnswers(stand, Call.of("digest"));
            lastOfManyAnswers(stand, Call.of("many", 9));
            lastOfManyAnswers(stand, Call.of("wouldCost", 0, 9, 5, 1, 27, 1439));
            lastOfManyAnswers(stand, Call.of("worth", 0, 0, 0));
            lastOfManyAnswers(stand, Call.of("tap", 0, 9, 5, 1, 27, 1440));
        }
    }

    private static void lastOfManyAnswers(Stand stand, Call call) {
        TapCap x = stand.made();
        String first = call.on(x);
        for (int calls = stand.size() + 1; calls < MOST_CALLS - 1; calls++) {
            call.on(x);
        }
        S.isTrue(stand + ": the call 512, " + call + ", answers " + first, call.on(x).equals(first));
    }

    private static void wholeNumbers() {
        S.says("Terms", "All numbers are whole; what is divided is rounded down.");
        Stand stand = Stand.GIVEN.then("tariff", 0, 3, 0, 50, 200).then("carrier", 1, 1).then("late", 0, 27, 30)
                .then("tap", 0, 0, 0, 1, 27, 0).then("tap", 0, 0, 1, 1, 27, 4);
        S.answers(stand, Call.of("refund", 0, 0, 27), 1);
        S.answers(stand, Call.of("share", 0, 0, 27), 2);
        S.answers(stand, Call.of("share", 1, 0, 27), 1);
        S.answers(stand, Call.of("ofWeek", 0, 3, 0), 3);
    }

    /** What each method refuses in every state, whatever else there is. */
    private static List<Call> refused() {
        return List.of(Call.of("zone", 10, 1), Call.of("zone", 9, 5), Call.of("carrier", 6, 0), Call.of("carrier", 5, 3),
                Call.of("tariff", 28, 1, 0, 1, 1), Call.of("tariff", 27, 0, 0, 1, 1), Call.of("tie", 4, 0),
                Call.of("tie", 0, 0), Call.of("lose", 4, 1), Call.of("pay", 4, 1), Call.of("pay", 0, 0),
                Call.of("late", 6, 0, 1), Call.of("late", 5, 27, 201), Call.of("tap", 4, 0, 0, 1, 0, 0),
                Call.of("tap", 0, 0, 0, 1, 0, 1440), Call.of("settle", 4, 0), Call.of("settle", 0, 4),
                Call.of("refund", 4, 0, 0), Call.of("refund", 0, 3, 5));
    }

    private static List<Call> refusedWhenAsked() {
        return List.of(Call.of("ofCard", 4, 0), Call.of("ofCard", 0, 8), Call.of("ofDay", 4, 0, 0),
                Call.of("ofDay", 0, 27, 8), Call.of("ofLeg", 0, 5, 40, 0), Call.of("ofJourney", 0, 5, 40, 0),
                Call.of("ofWeek", 0, 4, 0), Call.of("ofWeek", 0, 3, 3), Call.of("share", 3, 0, 0),
                Call.of("check", 4, 0, 0), Call.of("check", 0, 0, 1440), Call.of("many", 9), Call.of("meanFare", 28),
                Call.of("wouldCost", 4, 0, 0, 1, 0, 0), Call.of("wouldCost", 0, 0, 0, 1, 0, 1440),
                Call.of("guess", 0, 27, 10, 1), Call.of("worth", 4, 0, 0), Call.of("worth", 0, 0, 7));
    }

    private static void throwingChangesNothing() {
        S.says("Every promise", "A method that throws an exception changes nothing.");
        for (Stand stand : Stand.all()) {
            S.changesNothing(stand, true, refused());
            S.changesNothing(stand, true, refusedWhenAsked());
        }
        S.changesNothing(Stand.GIVEN, true, List.of(Call.of("card"), Call.of("settle", 0, 0), Call.of("refund", 0, 0, 0)));
        S.changesNothing(Stand.SOME, true, List.of(Call.of("tariff", 8, 1, 1, 1, 1), Call.of("tie", 1, 0),
                Call.of("settle", 0, 2), Call.of("refund", 0, 1, 0)));
        S.changesNothing(Stand.FULL, true, List.of(Call.of("card"), Call.of("tariff", 27, 1, 1, 1, 1), Call.of("tie", 2, 0),
                Call.of("tap", 0, 0, 0, 1, 0, 0), Call.of("close"), Call.of("refund", 0, 0, 0)));
        S.changesNothing(Stand.GIVEN.times(5, "tariff", 27, 2, 1, 5, 20), true, List.of(Call.of("tariff", 27, 9, 5, 9, 9)));
    }

    private static void firstIs(Class<? extends RuntimeException> want, Stand stand, Call... calls) {
        S.refused(want, stand, List.of(calls));
    }

    private static void firstOfWhatIsTold() {
        S.says("Every promise", "If several exceptions apply, the one that is named first is thrown.");
        for (Stand stand : Stand.all()) {
            firstIs(Rides.INDEX, stand, Call.of("zone", -1, 0), Call.of("zone", 10, 5), Call.of("late", 6, 0, 201),
                    Call.of("late", 0, 28, -1), Call.of("pay", 4, 0), Call.of("pay", -1, 1000));
        }
        Stand closed = Stand.GIVEN.times(28, "close");
        firstIs(Rides.ARGUMENT, closed, Call.of("tariff", -1, 1, 0, 1, 1), Call.of("tariff", 0, 0, 0, 1, 1),
                Call.of("tariff", 27, 1, 6, 1, 1), Call.of("tariff", 27, 1, 0, 51, 1), Call.of("tariff", 0, 1, 0, 1, 0));
        firstIs(Rides.ARGUMENT, Stand.GIVEN.times(5, "tariff", 0, 2, 1, 5, 20), Call.of("tariff", 28, 1, 0, 1, 1),
                Call.of("tariff", 27, 10, 0, 1, 1), Call.of("tariff", 27, 1, 0, 1, 201));
        // 3 is of 1: 1 can not be tied, 3 is no person, and neither 1 nor 3 is less than 1.
        Stand tied = Stand.GIVEN.then("tie", 3, 1);
        firstIs(Rides.INDEX, tied, Call.of("tie", 1, 3), Call.of("tie", 1, 4), Call.of("tie", 1, -1),
                Call.of("tie", 4, 4), Call.of("tie", -1, 0), Call.of("tie", 0, 3));
        firstIs(Rides.ARGUMENT, tied, Call.of("tie", 1, 1), Call.of("tie", 1, 2));
        firstIs(Rides.STATE, tied, Call.of("tie", 1, 0));
        // 1 is less than 2, but of 0; and 3 is of 2.
        firstIs(Rides.INDEX, Stand.GIVEN.then("tie", 3, 2).then("tie", 1, 0), Call.of("tie", 2, 1));
    }

    private static void firstOfWhatIsDone() {
        S.says("Every promise", "If several exceptions apply, the one that is named first is thrown.");
        for (Stand stand : Stand.all()) {
            firstIs(Rides.INDEX, stand, Call.of("tap", 4, 0, 0, 1, 0, 1440), Call.of("tap", 0, 10, 0, 1, 0, -1),
                    Call.of("tap", 0, 0, 6, 1, 0, 1440), Call.of("tap", 0, 0, 0, 1, 28, -1));
            firstIs(Rides.INDEX, stand, Call.of("settle", 4, 3), Call.of("settle", 0, 4), Call.of("settle", -1, 2),
                    Call.of("refund", 4, 4, 1), Call.of("refund", 0, 6, 1), Call.of("refund", 0, 4, 28));
        }
        firstIs(Rides.INDEX, Stand.FULL, Call.of("tap", 4, 0, 0, 1, 0, 0), Call.of("tap", 0, -1, 0, 1, 0, 0),
                Call.of("tap", 0, 0, -1, 1, 0, 0), Call.of("tap", 0, 0, 0, 1, -1, 0), Call.of("settle", 3, 0));
        firstIs(Rides.ARGUMENT, Stand.FULL, Call.of("tap", 0, 0, 0, 1, 0, 1440), Call.of("tap", 3, 0, 0, 1, 0, -1));
        // A lost card does not come to be denied.
        firstIs(Rides.ARGUMENT, Stand.SOME, Call.of("tap", 0, 0, 0, 1, 0, 1440));
        firstIs(Rides.INDEX, Stand.SOME, Call.of("tap", 0, 0, 6, 1, 0, 0), Call.of("refund", 2, 1, 0));
    }

    private static void firstOfWhatIsAsked() {
        S.says("Every promise", "If several exceptions apply, the one that is named first is thrown.");
        for (Stand stand : Stand.all()) {
            firstIs(Rides.INDEX, stand, Call.of("ofCard", 4, 8), Call.of("ofCard", -1, -1), Call.of("ofDay", 4, 0, 8),
                    Call.of("ofDay", 0, 28, -1), Call.of("ofDay", stand.tied(), 0, 8), Call.of("ofWeek", 4, 0, 3));
            firstIs(Rides.INDEX, stand, Call.of("ofLeg", 4, 0, 0, 7), Call.of("ofLeg", 0, -1, 0, 7),
                    Call.of("ofLeg", 0, 0, 40, 7), Call.of("ofLeg", 0, 0, -1, -1), Call.of("ofJourney", 4, 0, 0, 4),
                    Call.of("ofJourney", 0, 28, 0, 4), Call.of("ofJourney", 0, 0, 40, 4));
            firstIs(Rides.INDEX, stand, Call.of("ofWeek", 0, 4, 3), Call.of("check", 4, 0, 1440),
                    Call.of("check", 0, 28, -1), Call.of("wouldCost", 4, 0, 0, 1, 0, 1440),
                    Call.of("wouldCost", 0, 10, 0, 1, 0, -1), Call.of("wouldCost", 0, 0, 6, 1, 0, 1440));
            firstIs(Rides.INDEX, stand, Call.of("wouldCost", 0, 0, 0, 1, -1, 1440), Call.of("worth", 4, 0, 7),
                    Call.of("worth", 0, 4, 0), Call.of("worth", 0, -1, -1), Call.of("worth", stand.tied(), 0, 28));
        }
    }

    private static void askingChangesNothing() {
        S.says("Not promised", "Nothing is promised beyond the answers and state changes described above,");
        for (Stand stand : Stand.withCards()) {
            S.changesNothing(stand, false, List.of(Call.of("ofCard", 0, 0), Call.of("ofDay", 0, 0, 6),
                    Call.of("ofDay", 1, 27, 7), Call.of("ofWeek", 0, 3, 1), Call.of("ofWeek", 1, 0, 2),
                    Call.of("share", 2, 0, 0), Call.of("check", 2, 27, 1439), Call.of("many", 6),
                    Call.of("meanFare", 27)));
        }
        for (Stand stand : List.of(Stand.SOME, Stand.FULL)) {
            S.changesNothing(stand, false, List.of(Call.of("ofLeg", 0, 0, 0, 1), Call.of("ofJourney", 0, 0, 0, 3)));
        }
    }

    private static void whatWouldBeChangesNothing() {
        S.says("Ahead of the calls", "Ahead of the calls `wouldCost`, `guess`, `worth`, `digest` the interface says: "
                + "---- what would be (nothing is changed).");
        for (Stand stand : Stand.withCards()) {
            for (int day = 0; day < 28; day += 9) {
                S.changesNothing(stand, false, List.of(Call.of("wouldCost", 0, 9, 5, 1, day, 1439),
                        Call.of("wouldCost", 2, 0, 0, 0, day, 0), Call.of("guess", 0, day, 3, 1),
                        Call.of("guess", 1, day, 0, 0), Call.of("worth", 0, day / 7, day),
                        Call.of("worth", 1, day / 7, day), Call.of("digest")));
            }
        }
        // What was tried is not kept: the same tap is no double, and the next one of 40 has its place.
        Stand tried = Stand.GIVEN.then("wouldCost", 0, 0, 0, 1, 0, 0);
        S.answers(tried, Call.of("tap", 0, 0, 0, 1, 0, 0), 1);
        S.answers(tried, Call.of("ofDay", 0, 0, 0), 0);
        S.answers(Stand.NEW.then("digest"), Call.of("card"), 0);
    }
}
