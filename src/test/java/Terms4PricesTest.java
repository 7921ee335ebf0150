/** A test for each sentence of Terms 4: the least price. The stop z - 1 lies in the zone z. */
public final class Terms4PricesTest {
    private static final String PART = "Terms 4";
    private static final Sentences S = new Sentences("Terms4PricesTest", PART);

    public static void main(String[] args) {
        allFares();
        ticketAndFaresAbove();
        dayWithoutJourneys();
        severalForADay();
        allDays();
        weekTicketOfTheFirstDay();
        daysBesideTheWeekTicket();
        severalForAWeek();
        dayWithinItsWeek();
        S.end();
    }

    private static void day(TapCap x, int day, int cost, int z) {
        S.due("the day " + day + " costs", x.ofDay(0, day, 5), cost);
        S.due("the z of its ticket", x.ofDay(0, day, 6), z);
    }

    private static void week(TapCap x, int week, int cost, int z) {
        S.due("the week " + week + " costs", x.ofWeek(0, week, 0), cost);
        S.due("the z of its ticket", x.ofWeek(0, week, 1), z);
    }

    private static void allFares() {
        S.says(PART, "A DAY costs a PERSON the least of: all FARES;");
        TapCap x = Rides.withZones();
        Rides.ride(x, 0, 0, 2, 0, 27, 0);
        day(x, 27, 4, 0);
        x.tap(0, 0, 0, true, 27, 100);
        S.due("all fares", x.ofDay(0, 27, 4), 6);
        day(x, 27, 6, 0);
        S.due("the other person", x.ofDay(1, 27, 5), 0);
    }

    private static void ticketAndFaresAbove() {
        S.says(PART, "or, for each z, the DAY TICKET for z, and the FARES of JOURNEYS with a TOP above z.");
        for (int z = 1; z <= 4; z++) {
            TapCap x = Rides.withZones();
            x.tariff(0, 5, 1, 6, 200);
            Rides.ins(x, 0, z - 1, 0, 3);
            day(x, 0, 6 + (z - 1) * 2, z);
            TapCap y = Rides.withZones();
            y.tariff(0, 5, 5, 6, 200);
            Rides.ins(y, 0, 0, 0, 3);
            y.tap(0, z - 1, 0, true, 0, 500);
            // One fare of 5 above the zone 1 is less than the next ticket, which costs 10 more.
            day(y, 0, z == 1 ? 6 : 11, 1);
        }
        TapCap x = Rides.withZones();
        // There is none for less than the zone 1, which would cost less than nothing.
        x.tariff(0, 1, 5, 9, 39);
        x.tap(0, 0, 0, true, 0, 0);
        day(x, 0, 1, 0);
        week(x, 0, 1, 0);
    }

    private static void dayWithoutJourneys() {
        S.says(PART, "(With no JOURNEYS 0.)");
        TapCap x = Rides.withZones();
        x.tariff(0, 1, 0, 1, 1);
        for (int day = 0; day < 28; day++) {
            day(x, day, 0, 0);
            S.due("within its week", x.ofDay(0, day, 7), 0);
        }
        for (int week = 0; week < 4; week++) {
            week(x, week, 0, 0);
        }
    }

    private static void severalForADay() {
        S.says(PART, "(With no JOURNEYS 0.) Of several the one without a ticket, then the smallest z.");
        TapCap x = Rides.withZones();
        x.tariff(0, 3, 0, 6, 200);
        Rides.ins(x, 0, 0, 0, 2);
        day(x, 0, 6, 0);
        x.tap(0, 0, 0, true, 0, 500);
        day(x, 0, 6, 1);
        TapCap y = Rides.withZones();
        // Each zone more costs the fare of 4 or a ticket that is dearer by 4.
        y.tariff(0, 4, 2, 5, 200);
        Rides.ins(y, 0, 0, 0, 2);
        for (int stop = 1; stop < 4; stop++) {
            y.tap(0, stop, 0, true, 0, 500 + 100 * stop);
            day(y, 0, 5 + 4 * stop, 1);
        }
        y.tap(0, 2, 0, true, 0, 1300);
        y.tap(0, 3, 0, true, 0, 1400);
        day(y, 0, 17, 4);
        TapCap z = Rides.withZones();
        z.tariff(0, 2, 0, 3, 200);
        Rides.ins(z, 0, 2, 0, 2);
        day(z, 0, 3, 3);
    }

    private static void allDays() {
        S.says(PART, "A WEEK costs the least of: all its DAYS, each by itself;");
        TapCap x = Rides.withZones();
        int[] days = {6, 7, 10, 13, 14, 27};
        for (int day : days) {
            x.tap(0, 0, 0, true, day, 0);
        }
        Rides.ride(x, 0, 4, 3, 0, 13, 100);
        int[] want = {2, 11, 2, 2};
        x.tariff(8, 2, 2, 50, 1);
        for (int week = 0; week < 4; week++) {
            S.due("all days of the week " + week, x.ofWeek(0, week, 2), week == 1 ? 14 : want[week]);
        }
        S.due("the week 1 has its ticket by its first day, and costs", x.ofWeek(0, 1, 0), 14);
        week(x, 0, 2, 0);
    }

    private static void weekTicketOfTheFirstDay() {
        S.says(PART, "or, for each z, the WEEK TICKET for z (by the TARIFF of the first DAY of that WEEK),");
        for (int week = 0; week < 4; week++) {
            TapCap x = Rides.withZones();
            int first = 7 * week;
            Rides.ins(x, 0, 3, first, 1);
            Rides.ins(x, 0, 3, first + 6, 1);
            x.tariff(first + 1, 9, 0, 50, 1);
            week(x, week, 2 + 9, 0);
            x.tariff(first, 9, 1, 50, 3);
            // 18 without one; the ticket for 4 is 3 + 24.
            week(x, week, 18, 0);
            x.tariff(first, 9, 0, 50, 3);
            week(x, week, 3, 4);
        }
    }

    private static void daysBesideTheWeekTicket() {
        S.says(PART, "and, for each DAY, what that would cost, also with a DAY TICKET, with the JOURNEYS with a TOP "
                + "above z alone.");
        TapCap x = Rides.withZones();
        x.tariff(0, 9, 1, 10, 10);
        Rides.ins(x, 0, 0, 0, 2);
        Rides.ins(x, 0, 0, 6, 2);
        week(x, 0, 10, 1);
        Rides.ins(x, 0, 1, 3, 1);
        week(x, 0, 18, 2);
        x.tap(0, 3, 0, true, 6, 500);
        // For 1: 10, 9 and 9; for 2: 18 and 9; for 4: 34.
        week(x, 0, 27, 2);
        x.tap(0, 3, 0, true, 6, 600);
        // For 2: 18 and the day ticket for 4, that is 16; for 4: 34. Of several the smallest.
        week(x, 0, 34, 2);
        S.due("the day 6 with its ticket", x.ofDay(0, 6, 7), 16);
        TapCap y = Rides.withZones();
        y.tariff(0, 9, 0, 10, 11);
        Rides.ins(y, 0, 3, 0, 1);
        Rides.ins(y, 0, 3, 6, 1);
        week(y, 0, 11, 4);
        S.due("journeys of a top of z are its", y.ofDay(0, 6, 7), 0);
    }

    private static void severalForAWeek() {
        S.says(PART, "with the JOURNEYS with a TOP above z alone. Of several the one without a ticket, then the "
                + "smallest z.");
        TapCap x = Rides.withZones();
        x.tariff(0, 5, 0, 50, 10);
        Rides.ins(x, 0, 0, 21, 1);
        Rides.ins(x, 0, 0, 27, 1);
        week(x, 3, 10, 0);
        x.tap(0, 0, 0, true, 27, 500);
        week(x, 3, 10, 1);
        TapCap y = Rides.withZones();
        // Each zone more costs the fare of 8 or a ticket that is dearer by 8.
        y.tariff(0, 8, 1, 50, 10);
        Rides.ins(y, 0, 0, 0, 2);
        for (int stop = 1; stop < 4; stop++) {
            y.tap(0, stop, 0, true, stop, 0);
            week(y, 0, 10 + 8 * stop, 1);
        }
        y.tap(0, 3, 0, true, 6, 0);
        week(y, 0, 34, 4);
    }

    private static void dayWithinItsWeek() {
        S.says(PART, "What a DAY costs within its WEEK: as above, by what the WEEK does.");
        TapCap x = Rides.withZones();
        x.tariff(0, 9, 5, 10, 11);
        Rides.ins(x, 0, 0, 20, 2);
        S.due("without a week ticket: its day ticket", x.ofDay(0, 20, 7), 10);
        Rides.ins(x, 0, 0, 14, 1);
        week(x, 2, 11, 1);
        S.due("with one: nothing is left of it", x.ofDay(0, 20, 7), 0);
        S.due("by itself as before", x.ofDay(0, 20, 5), 10);
        S.due("by itself with its ticket as before", x.ofDay(0, 20, 6), 1);
        x.tap(0, 1, 0, true, 20, 500);
        S.due("a fare above the ticket", x.ofDay(0, 20, 7), 9);
        S.due("by itself a ticket and a fare", x.ofDay(0, 20, 5), 19);
        S.due("the first day", x.ofDay(0, 14, 7), 0);
        S.due("a day of another week", x.ofDay(0, 13, 7), 0);
        Rides.ins(x, 0, 0, 21, 1);
        S.due("another week has none", x.ofDay(0, 21, 7), 9);
    }
}
