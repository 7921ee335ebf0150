import java.util.ArrayList;
import java.util.List;

/** Two sentences each that speak of the same taps, legs or journeys, held against each other by the class's answers. */
public final class PairsOfTripsTest {
    private static final String DAY = "- `what`: 0 TAPS, 1 LEGS, 2 JOURNEYS, 3 LEGS with a GUESS, 4 all FARES, 5 what the "
            + "DAY costs by itself, 6 the z of its DAY TICKET by itself (0 without one), 7 what it costs within its WEEK";
    private static final String LEG = "- `what`: 0 the STOP where it begins, 1 where it ends, 2 and 3 these minutes, 4 its "
            + "LINE, 5 0 without a GUESS, 1 if the beginning is one, 2 if the end is, 6 the JOURNEY that it is of (from 0)";
    private static final String JOURNEY = "- `what`: 0 its LEGS, 1 how many ZONES it touches, 2 its TOP, 3 its FARE";
    private static final String MANY = "1 TAPS that are kept, 2 DENIED ever, 3 DOUBLED ever, 4 CLOSED DAYS, 5 TARIFFS,";
    private static final Sentences S = new Sentences("PairsOfTripsTest");

    /** A day of a person on which there are taps. */
    private record Trip(MadeUp run, int person, int day) {
        int of(int what) {
            return run.ask("ofDay", person, day, what);
        }

        int leg(int k, int what) {
            return run.ask("ofLeg", person, day, k, what);
        }

        int journey(int k, int what) {
            return run.ask("ofJourney", person, day, k, what);
        }
    }

    public static void main(String[] args) {
        List<Trip> trips = trips();
        tapsThatCameAndAreCounted();
        tapsOfCardsAndOfPersons();
        for (Trip trip : trips) {
            legsOfTheDay(trip);
            journeysOfTheDay(trip);
            legsOfTheJourneys(trip);
            zonesOfTheJourneys(trip);
            rowsOfLegs(trip);
            guessesOfLegs(trip);
            guessesByEarlierLegs(trip);
            legsAndAnInspector(trip);
        }
        meanOfTheFares();
        S.end();
    }

    private static List<Trip> trips() {
        List<Trip> trips = new ArrayList<>();
        for (MadeUp run : MadeUp.all()) {
            for (int person : run.persons()) {
                for (int day = 0; day < MadeUp.DAYS; day++) {
                    if (run.ask("ofDay", person, day, 0) > 0) {
                        trips.add(new Trip(run, person, day));
                    }
                }
            }
        }
        return trips;
    }

    private static void due(Trip trip, String what, int got, int want) {
        S.due(trip + ": " + what, got, want);
    }

    private static void tapsThatCameAndAreCounted() {
        S.saysBoth("Promise 10", "Returns how many are kept then; -2, if it is DENIED; -3, if it is DOUBLED.",
                "Promise 21", MANY);
        for (MadeUp run : MadeUp.all()) {
            S.due(run + ": kept", run.ask("many", 1), run.kept);
            S.due(run + ": denied", run.ask("many", 2), run.denied);
            S.due(run + ": doubled", run.ask("many", 3), run.doubled);
        }
    }

    private static void tapsOfCardsAndOfPersons() {
        S.saysBoth("Terms 2", "TAPS of a CARD are those of the PERSON that it is of now;",
                "Promise 14", "3 TAPS of it that are kept,");
        for (MadeUp run : MadeUp.all()) {
            int[] ofCards = new int[4];
            for (int card = 0; card < run.ask("many", 0); card++) {
                ofCards[run.ask("ofCard", card, 1)] += run.ask("ofCard", card, 3);
            }
            int all = 0;
            for (int person : run.persons()) {
                int ofPerson = 0;
                for (int day = 0; day < MadeUp.DAYS; day++) {
                    ofPerson += run.ask("ofDay", person, day, 0);
                }
                S.due(run + ": taps of the cards of " + person, ofCards[person], ofPerson);
                all += ofPerson;
            }
            S.due(run + ": taps of all persons", all, run.ask("many", 1));
        }
    }

    private static void legsOfTheDay(Trip trip) {
        S.saysBoth("Promise 15", DAY, "Promise 16", LEG);
        int guesses = 0;
        for (int k = 0; k < trip.of(1); k++) {
            guesses += trip.leg(k, 5) > 0 ? 1 : 0;
        }
        due(trip, "legs with a guess", trip.of(3), guesses);
        S.isTrue(trip + ": taps make a leg", trip.of(1) >= 1 && trip.of(1) <= trip.of(0));
        S.isTrue(trip + ": no leg behind the last",
                trip.run.asker.answer("ofLeg", trip.person, trip.day, trip.of(1), 0).equals("IndexOutOfBoundsException"));
    }

    private static void journeysOfTheDay(Trip trip) {
        S.saysBoth("Promise 15", DAY, "Promise 17", JOURNEY);
        int fares = 0;
        for (int k = 0; k < trip.of(2); k++) {
            fares += trip.journey(k, 3);
        }
        due(trip, "all fares", trip.of(4), fares);
        S.isTrue(trip + ": no journey behind the last", trip.run.asker
                .answer("ofJourney", trip.person, trip.day, trip.of(2), 0).equals("IndexOutOfBoundsException"));
    }

    private static void legsOfTheJourneys(Trip trip) {
        S.saysBoth("Promise 16", LEG, "Promise 17", JOURNEY);
        int[] legs = new int[trip.of(2)];
        for (int k = 0; k < trip.of(1); k++) {
            legs[trip.leg(k, 6)]++;
        }
        for (int journey = 0; journey < legs.length; journey++) {
            due(trip, "legs of the journey " + journey, trip.journey(journey, 0), legs[journey]);
        }
    }

    private static void zonesOfTheJourneys(Trip trip) {
        S.saysBoth("Terms 3", "It touches as many ZONES as the greatest ZONE of its STOPS (both of all its LEGS) less the "
                + "smallest one, and 1. Its FARE is that of the TARIFF of the DAY; its TOP is its greatest ZONE.",
                "Terms 1", "By it the FARE for a JOURNEY that touches n ZONES (1 to 4) is the BASE, and n - 1 times the STEP;");
        int[] tariff = trip.run.tariffOf(trip.day);
        for (int journey = 0; journey < trip.of(2); journey++) {
            int top = 1;
            int bottom = 4;
            for (int k = 0; k < trip.of(1); k++) {
                for (int side = 0; side < 2 && trip.leg(k, 6) == journey; side++) {
                    int zone = trip.run.zones[trip.leg(k, side)];
                    top = Math.max(top, zone);
                    bottom = Math.min(bottom, zone);
                }
            }
            due(trip, "top of " + journey, trip.journey(journey, 2), top);
            due(trip, "zones of " + journey, trip.journey(journey, 1), top - bottom + 1);
            due(trip, "fare of " + journey, trip.journey(journey, 3), tariff[1] + (top - bottom) * tariff[2]);
        }
    }

    private static void rowsOfLegs(Trip trip) {
        S.saysBoth("Terms 3", "A JOURNEY is a row of LEGS of which each one (but the first) begins 20 minutes or less "
                + "behind the end of the one ahead of it.", "Promise 16", LEG);
        due(trip, "the journey of the first leg", trip.leg(0, 6), 0);
        for (int k = 1; k < trip.of(1); k++) {
            boolean isNext = trip.leg(k, 2) - trip.leg(k - 1, 3) > 20;
            due(trip, "the journey of the leg " + k, trip.leg(k, 6), trip.leg(k - 1, 6) + (isNext ? 1 : 0));
        }
    }

    private static void guessesOfLegs(Trip trip) {
        S.saysBoth("Terms 3", "a side that is a GUESS has the minute of the other side.",
                "Promise 24", "Returns the GUESS of the other side.");
        for (int k = 0; k < trip.of(1); k++) {
            int guess = trip.leg(k, 5);
            int known = guess == 1 ? 1 : 0;
            int guessed = trip.run.ask("guess", trip.person, trip.day, trip.leg(k, known), 1 - known);
            S.isTrue(trip + ": the guess of the leg " + k, guess == 0 || trip.leg(k, 1 - known) == guessed);
            S.isTrue(trip + ": minutes of the leg " + k, guess == 0 ? trip.leg(k, 2) <= trip.leg(k, 3)
                    : trip.leg(k, 2) == trip.leg(k, 3));
        }
    }

    private static void guessesByEarlierLegs(Trip trip) {
        S.saysBoth("Terms 3", "the STOP that, in all LEGS without a GUESS of this PERSON on earlier DAYS (of any WEEK) that "
                + "have the STOP that is known at the same side (beginning or end), is the other one most often; of several "
                + "the smallest number; without any the STOP itself.", "Promise 16", LEG);
        for (int known = 0; known < 2; known++) {
            int[][] times = timesOf(trip, known);
            for (int stop = 0; stop < 10; stop++) {
                int best = stop;
                for (int other = 9; other >= 0; other--) {
                    boolean isMost = times[stop][other] >= times[stop][best];
                    best = times[stop][other] > 0 && isMost ? other : best;
                }
                due(trip, "guess by the stop " + stop + " at the side " + known,
                        trip.run.ask("guess", trip.person, trip.day, stop, 1 - known), best);
            }
        }
    }

    /** How often each stop was at the other side of each that is known. */
    private static int[][] timesOf(Trip trip, int known) {
        int[][] times = new int[10][10];
        for (int day = 0; day < trip.day; day++) {
            Trip earlier = new Trip(trip.run, trip.person, day);
            for (int k = 0; k < earlier.of(1); k++) {
                times[earlier.leg(k, known)][earlier.leg(k, 1 - known)] += earlier.leg(k, 5) == 0 ? 1 : 0;
            }
        }
        return times;
    }

    private static void legsAndAnInspector(Trip trip) {
        S.saysBoth("Promise 16", LEG, "Promise 20", "Returns 2, if it is LOST; 1, if a LEG of its PERSON on that DAY, whose "
                + "beginning is no GUESS, began in that minute or ahead of it, and ends in it or later (one whose end is a "
                + "GUESS: 120 minutes behind its beginning); otherwise 0.");
        List<int[]> rides = new ArrayList<>();
        for (int k = 0; k < trip.of(1); k++) {
            if (trip.leg(k, 5) != 1) {
                rides.add(new int[] {trip.leg(k, 2), trip.leg(k, 5) == 2 ? trip.leg(k, 2) + 120 : trip.leg(k, 3)});
            }
        }
        inspect(trip, rides, 0);
        inspect(trip, rides, 1439);
        for (int[] ride : rides) {
            for (int near = -1; near <= 1; near++) {
                inspect(trip, rides, Math.max(0, ride[0] + near));
                inspect(trip, rides, Math.min(1439, ride[1] + near));
            }
        }
    }

    private static void inspect(Trip trip, List<int[]> rides, int minute) {
        int riding = rides.stream().anyMatch(ride -> ride[0] <= minute && ride[1] >= minute) ? 1 : 0;
        for (int card = 0; card < trip.run.ask("many", 0); card++) {
            if (trip.run.ask("ofCard", card, 1) == trip.person) {
                due(trip, "check(" + card + ") in the minute " + minute, trip.run.ask("check", card, trip.day, minute),
                        trip.run.ask("ofCard", card, 2) == 1 ? 2 : riding);
            }
        }
    }

    private static void meanOfTheFares() {
        S.saysBoth("Promise 15", DAY, "Promise 22",
                "Returns the mean FARE of all JOURNEYS of all PERSONS on that DAY, not rounded; 0 without any.");
        for (MadeUp run : MadeUp.all()) {
            for (int day = 0; day < MadeUp.DAYS; day++) {
                int fares = 0;
                int journeys = 0;
                for (int person : run.persons()) {
                    fares += run.ask("ofDay", person, day, 4);
                    journeys += run.ask("ofDay", person, day, 2);
                }
                double mean = Double.parseDouble(run.asker.answer("meanFare", day));
                S.due(run + ": meanFare(" + day + ")", mean, journeys == 0 ? 0 : 1.0 * fares / journeys);
            }
        }
    }
}
