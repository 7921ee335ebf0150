import java.util.List;

/** A test for each sentence of Terms 1: stops, lines, prices. */
public final class Terms1StopsTest {
    private static final String PART = "Terms 1";
    private static final Sentences S = new Sentences("Terms1StopsTest", PART);

    public static void main(String[] args) {
        stops();
        lines();
        tariffNumbers();
        fares();
        dayTickets();
        weekTickets();
        atMostSixTariffs();
        firstTariff();
        tariffToldLast();
        daysAndWeeks();
        minutes();
        S.end();
    }

    private static void stops() {
        S.says(PART, "STOPS 0 to 9, each in a ZONE (1 to 4; 1 at first).");
        for (int stop = 0; stop <= 9; stop++) {
            TapCap x = Rides.withCards(1);
            Rides.ins(x, 0, stop, 0, 1);
            S.due("first zone of the stop " + stop, x.ofJourney(0, 0, 0, 2), 1);
            for (int zone = 1; zone <= 4; zone++) {
                x.zone(stop, zone);
                S.due("zone of the stop " + stop, x.ofJourney(0, 0, 0, 2), zone);
            }
            for (int other = 0; other <= 9; other++) {
                S.due("zone of " + other + " beside " + stop, x.zone(other, 1), other == stop ? 4 : 1);
            }
        }
        S.refusedOutside(Rides.INDEX, Stand.all(), 0, 9, stop -> Call.of("zone", stop, 1));
        S.refusedOutside(Rides.ARGUMENT, Stand.all(), 1, 4, zone -> Call.of("zone", 9, zone));
    }

    private static void lines() {
        S.says(PART, "LINES 0 to 5, each of a CARRIER (0 to 2; 0 at first).");
        for (int line = 0; line <= 5; line++) {
            TapCap x = Rides.withCards(1);
            x.tap(0, 0, line, true, 0, 0);
            S.due("first carrier of the line " + line, x.share(0, 0, 0), 2);
            for (int carrier = 0; carrier <= 2; carrier++) {
                x.carrier(line, carrier);
                S.due("carrier of the line " + line, x.share(carrier, 0, 0), 2);
            }
            for (int other = 0; other <= 5; other++) {
                S.due("carrier of " + other + " beside " + line, x.carrier(other, 0), other == line ? 2 : 0);
            }
        }
        S.refusedOutside(Rides.INDEX, Stand.all(), 0, 5, line -> Call.of("carrier", line, 0));
        S.refusedOutside(Rides.INDEX, Stand.all(), 0, 2, carrier -> Call.of("carrier", 5, carrier));
    }

    private static void tariffNumbers() {
        S.says(PART, "A TARIFF has four numbers: a BASE (1 to 9), a STEP (0 to 5), a TICKET (1 to 50) and a WEEKLY "
                + "(1 to 200).");
        TapCap x = Rides.withZones();
        x.tariff(0, 1, 0, 1, 1);
        Rides.ins(x, 0, 3, 0, 2);
        Rides.ins(x, 0, 3, 1, 2);
        Rides.ride(x, 0, 0, 3, 0, 2, 100);
        S.due("the least base and step: fare", x.ofJourney(0, 2, 0, 3), 1);
        S.due("the least ticket", x.ofDay(0, 0, 5), 1);
        S.due("the least weekly", x.ofWeek(0, 0, 0), 1);
        TapCap y = Rides.withZones();
        y.tariff(0, 9, 5, 50, 200);
        for (int day = 0; day < 5; day++) {
            Rides.ins(y, 0, 0, day, 6);
        }
        Rides.ride(y, 0, 0, 3, 0, 7, 100);
        S.due("the greatest base and step: fare", y.ofJourney(0, 7, 0, 3), 24);
        S.due("the greatest ticket", y.ofDay(0, 0, 5), 50);
        S.due("the greatest weekly", y.ofWeek(0, 0, 0), 200);
        List<Stand> open = List.of(Stand.NEW, Stand.GIVEN, Stand.SOME);
        S.refusedOutside(Rides.ARGUMENT, open, 1, 9, base -> Call.of("tariff", 27, base, 0, 1, 1));
        S.refusedOutside(Rides.ARGUMENT, open, 0, 5, step -> Call.of("tariff", 27, 1, step, 1, 1));
        S.refusedOutside(Rides.ARGUMENT, open, 1, 50, ticket -> Call.of("tariff", 27, 1, 0, ticket, 1));
        S.refusedOutside(Rides.ARGUMENT, open, 1, 200, weekly -> Call.of("tariff", 27, 1, 0, 1, weekly));
    }

    private static void fares() {
        S.says(PART, "By it the FARE for a JOURNEY that touches n ZONES (1 to 4) is the BASE, and n - 1 times the "
                + "STEP;");
        for (int from = 0; from < 4; from++) {
            for (int to = 0; to < 4; to++) {
                TapCap x = Rides.withZones();
                x.tariff(0, 3, 5, 50, 200);
                Rides.ride(x, 0, from, to, 0, 0, 100);
                int zones = Math.abs(to - from) + 1;
                S.due("zones from " + from + " to " + to, x.ofJourney(0, 0, 0, 1), zones);
                S.due("fare from " + from + " to " + to, x.ofJourney(0, 0, 0, 3), 3 + (zones - 1) * 5);
            }
        }
    }

    private static void dayTickets() {
        S.says(PART, "the DAY TICKET for z (the ZONES 1 to z; 1 to 4) is the TICKET, and z - 1 times twice the STEP;");
        for (int z = 1; z <= 4; z++) {
            TapCap x = Rides.withZones();
            x.tariff(0, 9, 5, 7, 200);
            Rides.ins(x, 0, z - 1, 0, 5);
            S.due("five fares of 9 in the zone " + z, x.ofDay(0, 0, 4), 45);
            S.due("the ticket for " + z, x.ofDay(0, 0, 5), 7 + (z - 1) * 10);
            S.due("its z", x.ofDay(0, 0, 6), z);
        }
    }

    private static void weekTickets() {
        S.says(PART, "the WEEK TICKET for z the WEEKLY, and z - 1 times 8 times the STEP.");
        for (int z = 1; z <= 4; z++) {
            TapCap x = Rides.withZones();
            x.tariff(0, 9, 5, 50, 10);
            for (int day = 0; day < 7; day++) {
                Rides.ins(x, 0, z - 1, day, 3);
            }
            S.due("seven days of 27 in the zone " + z, x.ofWeek(0, 0, 2), 189);
            S.due("the ticket for " + z, x.ofWeek(0, 0, 0), 10 + (z - 1) * 40);
            S.due("its z", x.ofWeek(0, 0, 1), z);
        }
    }

    private static void atMostSixTariffs() {
        S.says(PART, "There are at most 6, each from a DAY on;");
        TapCap x = Rides.withCards(1);
        S.due("with the first one", x.many(5), 1);
        for (int count = 2; count <= 6; count++) {
            S.due("tariff " + count, x.tariff(27, count, 0, 50, 200), count);
        }
        S.refuses("the seventh", Rides.STATE, () -> x.tariff(27, 1, 0, 1, 1));
        S.due("as before", x.many(5), 6);
        Rides.ins(x, 0, 0, 26, 1);
        Rides.ins(x, 0, 0, 27, 1);
        S.due("the day ahead of theirs", x.ofJourney(0, 26, 0, 3), 2);
        S.due("the sixth one counts", x.ofJourney(0, 27, 0, 3), 6);
        S.refused(Rides.STATE, Stand.GIVEN.times(5, "tariff", 3, 1, 1, 1, 1), "tariff", 3, 1, 1, 1, 1);
    }

    private static void firstTariff() {
        S.says(PART, "the first one is from the DAY 0 on, with 2, 1, 5 and 20.");
        for (int z = 1; z <= 4; z++) {
            TapCap x = Rides.withZones();
            Rides.ride(x, 0, 0, z - 1, 0, 0, 0);
            Rides.ride(x, 0, 0, z - 1, 0, 27, 0);
            S.due("the fare for " + z + " on the day 0", x.ofJourney(0, 0, 0, 3), 1 + z);
            S.due("the fare for " + z + " on the day 27", x.ofJourney(0, 27, 0, 3), 1 + z);
            TapCap y = Rides.withZones();
            Rides.ins(y, 0, z - 1, 0, 6);
            S.due("the day ticket for " + z, y.ofDay(0, 0, 5), 3 + 2 * z);
            TapCap w = Rides.withZones();
            for (int day = 0; day < 7; day++) {
                Rides.ins(w, 0, z - 1, day, 5);
            }
            S.due("the week ticket for " + z, w.ofWeek(0, 0, 0), 12 + 8 * z);
        }
    }

    private static void tariffToldLast() {
        S.says(PART, "That of a DAY is the one told last of those that are from no later DAY.");
        TapCap x = Rides.withCards(1);
        for (int day = 0; day < 28; day++) {
            Rides.ins(x, 0, 0, day, 1);
        }
        int[] since = {20, 10, 10, 27, 0};
        for (int i = 0; i < since.length; i++) {
            x.tariff(since[i], 4 + i, 0, 50, 200);
            for (int day = 0; day < 28; day++) {
                int last = 2;
                for (int told = 0; told <= i; told++) {
                    last = since[told] <= day ? 4 + told : last;
                }
                S.due("fare of the day " + day + " by " + (i + 2) + " tariffs", x.ofJourney(0, day, 0, 3), last);
            }
        }
    }

    private static void daysAndWeeks() {
        S.says(PART, "DAYS are 0 to 27; a WEEK has 7 (that of a DAY is DAY / 7).");
        for (int day = 0; day <= 27; day++) {
            TapCap x = Rides.withCards(1);
            S.due("a tap on the day " + day, x.tap(0, 0, 0, true, day, 0), 1);
            for (int week = 0; week <= 3; week++) {
                S.due("week " + week + " with the day " + day, x.ofWeek(0, week, 0), week == day / 7 ? 2 : 0);
                boolean isOfIt = week == day / 7;
                int its = day;
                int other = week;
                if (isOfIt) {
                    S.due("worth of it", x.worth(0, week, day), 2);
                } else {
                    S.refuses("worth in the week " + week, Rides.ARGUMENT, () -> x.worth(0, other, its));
                }
            }
        }
        S.refusedOutside(Rides.INDEX, Stand.withCards(), 0, 27, day -> Call.of("ofDay", 0, day, 0));
        S.refusedOutside(Rides.INDEX, Stand.all(), 0, 27, day -> Call.of("meanFare", day));
        S.refusedOutside(Rides.INDEX, Stand.withCards(), 0, 3, week -> Call.of("ofWeek", 0, week, 0));
    }

    private static void minutes() {
        S.says(PART, "Minutes of a DAY are 0 to 1439.");
        TapCap x = Rides.withCards(1);
        S.due("the first minute", x.tap(0, 1, 0, true, 27, 0), 1);
        S.due("the last minute", x.tap(0, 2, 0, false, 27, 1439), 2);
        S.due("the leg begins", x.ofLeg(0, 27, 0, 2), 0);
        S.due("the leg ends", x.ofLeg(0, 27, 0, 3), 1439);
        S.due("an inspector in the first minute", x.check(0, 27, 0), 1);
        S.due("an inspector in the last minute", x.check(0, 27, 1439), 1);
        List<Stand> found = List.of(Stand.GIVEN, Stand.FULL);
        S.refusedOutside(Rides.ARGUMENT, found, 0, 1439, minute -> Call.of("tap", 0, 0, 0, 1, 0, minute));
        S.refusedOutside(Rides.ARGUMENT, found, 0, 1439, minute -> Call.of("check", 0, 0, minute));
        S.refusedOutside(Rides.ARGUMENT, found, 0, 1439, minute -> Call.of("wouldCost", 0, 0, 0, 1, 0, minute));
    }
}
