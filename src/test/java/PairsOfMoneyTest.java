import java.util.ArrayList;
import java.util.List;
import java.util.Random;

/** Two sentences each that speak of the same money, held against each other by the class's answers. */
public final class PairsOfMoneyTest {
    private static final String DAY = "5 what the DAY costs by itself, 6 the z of its DAY TICKET by itself (0 without one), "
            + "7 what it costs within its WEEK (without the WEEK TICKET)";
    private static final String WEEK = "- `what`: 0 what it costs, 1 the z of its WEEK TICKET (0 without one), 2 what all "
            + "its DAYS cost, each by itself";
    private static final String MANY = "6 all PURSES, 7 what was CHARGED ever (with SETTLES; less what was paid back), 8 "
            + "REFUNDS ever (coins)";
    private static final Sentences S = new Sentences("PairsOfMoneyTest");

    public static void main(String[] args) {
        for (MadeUp run : MadeUp.all()) {
            pursesOfAll(run);
            pursesByWhatWasMoved(run);
            for (int person : run.persons()) {
                costsOfDays(run, person);
                costsOfWeeks(run, person);
                sharesOfDays(run, person);
                settled(run, person);
                refunds(run, person);
                worthOfDays(run, person);
            }
            closed(run);
            wouldCost(run);
        }
        S.end();
    }

    private static void pursesOfAll(MadeUp run) {
        S.saysBoth("Promise 14", "4 to 7 what was CHARGED to the PERSON that is its number for the WEEKS 0 to 3 (with SETTLES)",
                "Promise 21", MANY);
        int purses = 0;
        int charged = 0;
        for (int card = 0; card < run.ask("many", 0); card++) {
            purses += run.ask("ofCard", card, 0);
            for (int what = 4; what <= 7; what++) {
                charged += run.ask("ofCard", card, what);
            }
        }
        S.due(run + ": all purses", run.ask("many", 6), purses);
        S.due(run + ": charged ever", run.ask("many", 7), charged);
    }

    private static void pursesByWhatWasMoved(MadeUp run) {
        S.saysBoth("Promise 8", "Pays into a PURSE.", "Promise 21", MANY);
        S.due(run + ": all purses", run.ask("many", 6), run.paid - run.ask("many", 7) + run.ask("many", 8));
    }

    /** The fares of the journeys of a day with a top above z. */
    private static int faresAbove(MadeUp run, int person, int day, int z) {
        int sum = 0;
        for (int k = 0; k < run.ask("ofDay", person, day, 2); k++) {
            sum += run.ask("ofJourney", person, day, k, 2) > z ? run.ask("ofJourney", person, day, k, 3) : 0;
        }
        return sum;
    }

    /** The least cost of a day with the journeys with a top above the zone that is covered, and its z. */
    private static int[] leastOfDay(MadeUp run, int person, int day, int covered) {
        int[] tariff = run.tariffOf(day);
        int[] least = {faresAbove(run, person, day, covered), 0};
        for (int z = 1; z <= 4; z++) {
            int cost = tariff[3] + (z - 1) * 2 * tariff[2] + faresAbove(run, person, day, Math.max(z, covered));
            least = cost < least[0] ? new int[] {cost, z} : least;
        }
        return least;
    }

    private static void costsOfDays(MadeUp run, int person) {
        S.saysBoth("Terms 4", "A DAY costs a PERSON the least of: all FARES; or, for each z, the DAY TICKET for z, and the "
                + "FARES of JOURNEYS with a TOP above z. (With no JOURNEYS 0.) Of several the one without a ticket, then "
                + "the smallest z.", "Promise 15", DAY);
        for (int day = 0; day < MadeUp.DAYS; day++) {
            int[] least = leastOfDay(run, person, day, 0);
            S.due(run + ": ofDay(" + person + ", " + day + ", 5)", run.ask("ofDay", person, day, 5), least[0]);
            S.due(run + ": ofDay(" + person + ", " + day + ", 6)", run.ask("ofDay", person, day, 6), least[1]);
            int z = run.ask("ofWeek", person, day / 7, 1);
            S.due(run + ": ofDay(" + person + ", " + day + ", 7)", run.ask("ofDay", person, day, 7),
                    leastOfDay(run, person, day, z)[0]);
        }
    }

    private static int ticketOfWeek(MadeUp run, int week, int z) {
        int[] tariff = run.tariffOf(7 * week);
        return z > 0 ? tariff[4] + (z - 1) * 8 * tariff[2] : 0;
    }

    private static void costsOfWeeks(MadeUp run, int person) {
        S.saysBoth("Promise 15", DAY, "Promise 18", WEEK);
        for (int week = 0; week < MadeUp.WEEKS; week++) {
            String of = run + ": the week " + week + " of " + person;
            int byThemselves = 0;
            int within = 0;
            int[] least = {Integer.MAX_VALUE, 0};
            for (int day = 7 * week; day < 7 * week + 7; day++) {
                byThemselves += run.ask("ofDay", person, day, 5);
                within += run.ask("ofDay", person, day, 7);
            }
            for (int z = 0; z <= 4; z++) {
                int cost = ticketOfWeek(run, week, z);
                for (int day = 7 * week; day < 7 * week + 7; day++) {
                    cost += leastOfDay(run, person, day, z)[0];
                }
                least = cost < least[0] ? new int[] {cost, z} : least;
            }
            int z = run.ask("ofWeek", person, week, 1);
            S.due(of + ": z", z, least[1]);
            S.due(of + ": least", run.ask("ofWeek", person, week, 0), least[0]);
            S.due(of + ": days within it", run.ask("ofWeek", person, week, 0), ticketOfWeek(run, week, z) + within);
            S.due(of + ": days by themselves", run.ask("ofWeek", person, week, 2), byThemselves);
        }
    }

    private static int[] weights(MadeUp run, int person, int day) {
        int[] weights = new int[3];
        for (int journey = 0; journey < run.ask("ofDay", person, day, 2); journey++) {
            int[] legs = new int[3];
            for (int k = 0; k < run.ask("ofDay", person, day, 1); k++) {
                boolean isOfIt = run.ask("ofLeg", person, day, k, 6) == journey;
                legs[run.carriers[run.ask("ofLeg", person, day, k, 4)]] += isOfIt ? 1 : 0;
            }
            for (int carrier = 0; carrier < 3; carrier++) {
                weights[carrier] += run.ask("ofJourney", person, day, journey, 3) * legs[carrier]
                        / run.ask("ofJourney", person, day, journey, 0);
            }
        }
        return weights;
    }

    private static void sharesOfDays(MadeUp run, int person) {
        S.saysBoth("Terms 5", "It gets the cost times its WEIGHT, divided by the WEIGHTS of all three (0, if these are 0); "
                + "what is left over goes to the CARRIER of the first LEG of that DAY.", "Promise 15", DAY);
        for (int day = 0; day < MadeUp.DAYS; day++) {
            int cost = run.ask("ofDay", person, day, 5);
            int[] weights = weights(run, person, day);
            int all = weights[0] + weights[1] + weights[2];
            int left = cost;
            boolean isTravelled = run.ask("ofDay", person, day, 1) > 0;
            int first = isTravelled ? run.carriers[run.ask("ofLeg", person, day, 0, 4)] : -1;
            for (int carrier = 0; carrier < 3; carrier++) {
                int share = run.ask("share", carrier, person, day);
                int part = all > 0 ? cost * weights[carrier] / all : 0;
                left -= share;
                S.isTrue(run + ": share(" + carrier + ", " + person + ", " + day + ") is " + share + " of " + part,
                        carrier == first ? share >= part : share == part);
            }
            S.due(run + ": left of the day " + day + " of " + person, left, 0);
        }
    }

    /** What a person is due for the week of that day by the taps up to it, beside what was charged. */
    private static int dueUpTo(MadeUp run, int person, int lastDay) {
        int week = lastDay / 7;
        Stand upTo = run.stand.without(call -> call.name().equals("tap") && call.number(4) / 7 == week
                && call.number(4) > lastDay);
        return new Asker(upTo).ask("ofWeek", person, week, 0) - run.ask("ofCard", person, 4 + week);
    }

    private static void closed(MadeUp run) {
        S.saysBoth("Promise 18", WEEK, "Terms 5", "As it is CLOSED, each PERSON is CHARGED (from the PURSE of the CARD with "
                + "that number) what the WEEK costs by the TAPS that there are now on DAYS of that WEEK up to this one, less "
                + "what that PERSON was CHARGED for this WEEK so far, if that is above 0.");
        int day = run.ask("many", 4);
        if (day == MadeUp.DAYS) {
            S.isTrue(run + ": all are closed", run.asker.answer("close").equals("IllegalStateException"));
            return;
        }
        int all = 0;
        Asker after = new Asker(run.stand.then("close"));
        for (int person : run.persons()) {
            int due = Math.max(0, dueUpTo(run, person, day));
            all += due;
            S.due(run + ": purse of " + person, after.ask("ofCard", person, 0), run.ask("ofCard", person, 0) - due);
            S.due(run + ": charged to " + person, after.ask("ofCard", person, 4 + day / 7),
                    run.ask("ofCard", person, 4 + day / 7) + due);
        }
        S.due(run + ": close()", new Asker(run.stand).ask("close"), all);
    }

    private static void settled(MadeUp run, int person) {
        S.saysBoth("Promise 18", WEEK, "Terms 5", "To SETTLE a WEEK that has a CLOSED DAY, for a PERSON: the same, up to the "
                + "last DAY of it that is CLOSED, also if it is below 0 (then so much is paid back).");
        int closed = run.ask("many", 4);
        for (int week = 0; week < MadeUp.WEEKS; week++) {
            String settle = run + ": settle(" + person + ", " + week + ")";
            if (closed <= 7 * week) {
                S.isTrue(settle + " is refused",
                        run.asker.answer("settle", person, week).equals("IllegalStateException"));
                continue;
            }
            int due = dueUpTo(run, person, Math.min(closed, 7 * week + 7) - 1);
            S.due(settle, new Asker(run.stand).ask("settle", person, week), due);
            Asker after = new Asker(run.stand.then("settle", person, week));
            S.due(settle + ": purse", after.ask("ofCard", person, 0), run.ask("ofCard", person, 0) - due);
            S.due(settle + ": charged ever", after.ask("many", 7), run.ask("many", 7) + due);
            S.due(settle + " again", after.ask("settle", person, week), 0);
        }
    }

    private static void refunds(MadeUp run, int person) {
        S.saysBoth("Terms 5", "the half, rounded down, of the FARE of each JOURNEY of that DAY with a LEG on that LINE;",
                "Promise 13", "Throws `IllegalStateException` if that LINE is not 30 minutes or more late, or it was asked for");
        for (int day = 0; day < MadeUp.DAYS; day++) {
            for (int line = 0; line < 6; line++) {
                Asker late = new Asker(run.stand.then("late", line, day, 30));
                String refund = Call.of("refund", person, line, day).toString();
                String due = run.refunded.contains(refund) ? "IllegalStateException" : halves(run, person, line, day);
                S.isTrue(run + ": " + refund + " is " + due, late.answer("refund", person, line, day).equals(due));
                S.isTrue(run + ": " + refund + " again is refused",
                        late.answer("refund", person, line, day).equals("IllegalStateException"));
            }
        }
    }

    private static String halves(MadeUp run, int person, int line, int day) {
        List<Integer> journeys = new ArrayList<>();
        int sum = 0;
        for (int k = 0; k < run.ask("ofDay", person, day, 1); k++) {
            int journey = run.ask("ofLeg", person, day, k, 6);
            if (run.ask("ofLeg", person, day, k, 4) == line && !journeys.contains(journey)) {
                journeys.add(journey);
                sum += run.ask("ofJourney", person, day, journey, 3) / 2;
            }
        }
        return String.valueOf(sum);
    }

    private static void worthOfDays(MadeUp run, int person) {
        S.saysBoth("Promise 18", WEEK, "Promise 25", "Returns by how much less the WEEK would cost, if all TAPS of that PERSON "
                + "on that DAY were not there");
        for (int day = 0; day < MadeUp.DAYS; day++) {
            int without = day;
            Stand less = run.stand.without(call -> call.name().equals("tap") && call.number(4) == without
                    && call.number(0) < run.ask("many", 0) && run.ask("ofCard", call.number(0), 1) == person);
            S.due(run + ": worth(" + person + ", " + day / 7 + ", " + day + ")", run.ask("worth", person, day / 7, day),
                    run.ask("ofWeek", person, day / 7, 0) - new Asker(less).ask("ofWeek", person, day / 7, 0));
        }
    }

    private static void wouldCost(MadeUp run) {
        S.saysBoth("Promise 18", WEEK, "Promise 23", "Returns by how much the WEEK of that DAY would cost the PERSON more, if "
                + "that TAP was kept, too, as the last one that came");
        Random random = new Random(run.kept);
        int kept = 0;
        for (int i = 0; i < 60; i++) {
            int[] tap = run.anotherTap(random);
            int more = run.ask("wouldCost", tap);
            Asker after = new Asker(run.stand.then("lose", tap[0], 0).then("tap", tap));
            // A tap that is doubled can not be kept by a call.
            if (after.ask("many", 1) > run.kept) {
                int person = run.ask("ofCard", tap[0], 1);
                int week = tap[4] / 7;
                S.due(run + ": " + Call.of("wouldCost", tap), more,
                        after.ask("ofWeek", person, week, 0) - run.ask("ofWeek", person, week, 0));
                kept++;
            }
        }
        S.isTrue(run + ": most of those taps are kept", kept > 30);
    }
}
