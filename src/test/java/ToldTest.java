/** Promises 1 to 9: a new object, and what is told. */
public final class ToldTest {
    private static final Dues DUES = new Dues("ToldTest");

    public static void main(String[] args) {
        newObject();
        zone();
        carrier();
        tariff();
        tariffBounds();
        tariffOfAClosedDay();
        tariffToldLastCounts();
        card();
        tie();
        tieRefused();
        tieMovesTapsAlone();
        lose();
        pay();
        late();
        DUES.end();
    }

    private static void newObject() {
        TapCap x = new TapCap();
        for (int what = 0; what <= 8; what++) {
            DUES.due("new: many(" + what + ")", x.many(what), what == 5 ? 1 : 0);
        }
        for (int day = 0; day < 28; day++) {
            DUES.due("new: meanFare(" + day + ")", x.meanFare(day), 0);
        }
        DUES.refuses(x, "new: ofCard(0, 0)", Rides.INDEX, () -> x.ofCard(0, 0));
        DUES.refuses(x, "new: ofDay(0, 0, 0)", Rides.INDEX, () -> x.ofDay(0, 0, 0));
        DUES.refuses(x, "new: tie(0, 0)", Rides.INDEX, () -> x.tie(0, 0));
    }

    private static void zone() {
        TapCap x = Rides.withCards(1);
        for (int stop = 0; stop <= 9; stop++) {
            DUES.due("first zone of " + stop, x.zone(stop, 4), 1);
            DUES.due("zone of " + stop + " told before", x.zone(stop, 1), 4);
        }
        DUES.refuses("zone(-1, 1)", Rides.INDEX, () -> x.zone(-1, 1));
        DUES.refuses("zone(10, 1)", Rides.INDEX, () -> x.zone(10, 1));
        DUES.refuses("zone(3, 0)", Rides.ARGUMENT, () -> x.zone(3, 0));
        DUES.refuses("zone(3, 5)", Rides.ARGUMENT, () -> x.zone(3, 5));
        DUES.refuses("zone(10, 5)", Rides.INDEX, () -> x.zone(10, 5));
        DUES.due("zone(3, 2) behind refused ones", x.zone(3, 2), 1);
        Rides.ride(x, 0, 0, 3, 0, 0, 100);
        DUES.due("zones touched", x.ofJourney(0, 0, 0, 1), 2);
        x.zone(3, 4);
        DUES.due("zones touched, told anew", x.ofJourney(0, 0, 0, 1), 4);
    }

    private static void carrier() {
        TapCap x = Rides.withCards(1);
        for (int line = 0; line <= 5; line++) {
            DUES.due("first carrier of " + line, x.carrier(line, 2), 0);
            DUES.due("carrier of " + line + " told before", x.carrier(line, 1), 2);
        }
        DUES.refuses("carrier(-1, 0)", Rides.INDEX, () -> x.carrier(-1, 0));
        DUES.refuses("carrier(6, 0)", Rides.INDEX, () -> x.carrier(6, 0));
        DUES.refuses("carrier(3, -1)", Rides.INDEX, () -> x.carrier(3, -1));
        DUES.refuses("carrier(3, 3)", Rides.INDEX, () -> x.carrier(3, 3));
        DUES.due("carrier(3, 0) behind refused ones", x.carrier(3, 0), 1);
    }

    private static void tariff() {
        TapCap x = Rides.withCards(1);
        int[][] edges = {{0, 1, 0, 1, 1}, {27, 9, 5, 50, 200}, {27, 1, 5, 1, 200}, {0, 9, 0, 50, 1}, {5, 3, 2, 9, 25}};
        for (int i = 0; i < edges.length; i++) {
            int[] e = edges[i];
            DUES.due("tariff " + i, x.tariff(e[0], e[1], e[2], e[3], e[4]), i + 2);
        }
        DUES.refuses(x, "the seventh tariff", Rides.STATE, () -> x.tariff(0, 1, 1, 1, 1));
        DUES.refuses(x, "the seventh tariff, base 0", Rides.ARGUMENT, () -> x.tariff(0, 0, 1, 1, 1));
        DUES.due("tariffs", x.many(5), 6);
    }

    private static void tariffBounds() {
        TapCap x = Rides.withCards(1);
        Rides.close(x, 1);
        int[][] wrong = {{-1, 1, 1, 1, 1}, {28, 1, 1, 1, 1}, {1, 0, 1, 1, 1}, {1, 10, 1, 1, 1}, {1, 1, -1, 1, 1},
            {1, 1, 6, 1, 1}, {1, 1, 1, 0, 1}, {1, 1, 1, 51, 1}, {1, 1, 1, 1, 0}, {1, 1, 1, 1, 201}, {0, 1, 1, 1, 0}};
        for (int i = 0; i < wrong.length; i++) {
            int[] w = wrong[i];
            DUES.refuses(x, "wrong tariff " + i, Rides.ARGUMENT, () -> x.tariff(w[0], w[1], w[2], w[3], w[4]));
        }
        DUES.due("tariffs, all wrong ones refused", x.many(5), 1);
    }

    private static void tariffOfAClosedDay() {
        TapCap x = Rides.withCards(1);
        Rides.close(x, 3);
        DUES.refuses(x, "tariff of the closed day 0", Rides.STATE, () -> x.tariff(0, 1, 1, 1, 1));
        DUES.refuses(x, "tariff of the closed day 2", Rides.STATE, () -> x.tariff(2, 1, 1, 1, 1));
        DUES.due("tariff of the day 3", x.tariff(3, 1, 1, 1, 1), 2);
    }

    private static void tariffToldLastCounts() {
        TapCap x = Rides.withZones();
        for (int day = 0; day < 8; day++) {
            Rides.ride(x, 0, 0, 3, 0, day, 100);
        }
        DUES.due("fare by the first tariff: 2 + 3 * 1", x.ofJourney(0, 7, 0, 3), 5);
        x.tariff(5, 1, 0, 50, 9);
        x.tariff(2, 4, 5, 50, 200);
        DUES.due("fare of the day 1", x.ofJourney(0, 1, 0, 3), 5);
        DUES.due("fare of the day 2", x.ofJourney(0, 2, 0, 3), 19);
        DUES.due("fare of the day 5: the one told last", x.ofJourney(0, 5, 0, 3), 19);
        x.tariff(5, 9, 1, 50, 200);
        DUES.due("fare of the day 4", x.ofJourney(0, 4, 0, 3), 19);
        DUES.due("fare of the day 5, told anew", x.ofJourney(0, 5, 0, 3), 12);
    }

    private static void card() {
        TapCap x = new TapCap();
        for (int number = 0; number < 4; number++) {
            DUES.due("card " + number, x.card(), number);
            DUES.due("its purse", x.ofCard(number, 0), 0);
            DUES.due("its person", x.ofCard(number, 1), number);
            DUES.due("whether it is lost", x.ofCard(number, 2), 0);
        }
        DUES.refuses(x, "the fifth card", Rides.STATE, x::card);
        DUES.due("cards", x.many(0), 4);
    }

    private static void tie() {
        TapCap x = Rides.withCards(4);
        DUES.due("tie(3, 2)", x.tie(3, 2), 3);
        DUES.due("person of 3", x.ofCard(3, 1), 2);
        DUES.due("tie(3, 2) again", x.tie(3, 2), 2);
        DUES.due("tie(3, 0): it can be tied anew", x.tie(3, 0), 2);
        DUES.due("tie(2, 0): none is of 2 any more", x.tie(2, 0), 2);
        DUES.due("tie(2, 1)", x.tie(2, 1), 0);
        DUES.due("person of 2", x.ofCard(2, 1), 1);
        DUES.due("tie(3, 1)", x.tie(3, 1), 0);
    }

    private static void tieRefused() {
        TapCap x = Rides.withCards(3);
        x.tie(2, 1);
        DUES.refuses(x, "tie(-1, 0)", Rides.INDEX, () -> x.tie(-1, 0));
        DUES.refuses(x, "tie(3, 0): no such card", Rides.INDEX, () -> x.tie(3, 0));
        DUES.refuses(x, "tie(2, -1)", Rides.INDEX, () -> x.tie(2, -1));
        DUES.refuses(x, "tie(0, 3)", Rides.INDEX, () -> x.tie(0, 3));
        DUES.refuses(x, "tie(0, 2): 2 is no person", Rides.INDEX, () -> x.tie(0, 2));
        DUES.refuses(x, "tie(1, 2): 2 is no person", Rides.INDEX, () -> x.tie(1, 2));
        DUES.refuses(x, "tie(0, 0)", Rides.ARGUMENT, () -> x.tie(0, 0));
        DUES.refuses(x, "tie(0, 1)", Rides.ARGUMENT, () -> x.tie(0, 1));
        DUES.refuses(x, "tie(1, 1): not less, ahead of the card 2", Rides.ARGUMENT, () -> x.tie(1, 1));
        DUES.refuses(x, "tie(1, 0): the card 2 is of 1", Rides.STATE, () -> x.tie(1, 0));
    }

    private static void tieMovesTapsAlone() {
        TapCap x = Rides.withCards(2);
        Rides.ride(x, 1, 0, 0, 0, 0, 100);
        x.pay(1, 50);
        x.late(0, 0, 30);
        x.refund(1, 0, 0);
        x.close();
        x.tie(1, 0);
        DUES.due("legs of 0", x.ofDay(0, 0, 1), 1);
        DUES.due("taps of the card 1", x.ofCard(1, 3), 2);
        DUES.due("taps of the card 0", x.ofCard(0, 3), 0);
        DUES.due("the purse of 1: paid 50, refund 1, charged 2", x.ofCard(1, 0), 49);
        DUES.due("the purse of 0", x.ofCard(0, 0), 0);
        DUES.due("what 1 was charged", x.ofCard(1, 4), 2);
        DUES.due("what 0 was charged", x.ofCard(0, 4), 0);
        DUES.due("0 can ask for the refund as well", x.refund(0, 0, 0), 1);
        DUES.due("0 is charged for the same taps", x.settle(0, 0), 2);
        DUES.refuses(x, "1 is no person: ofDay(1, 0, 0)", Rides.INDEX, () -> x.ofDay(1, 0, 0));
    }

    private static void lose() {
        TapCap x = Rides.withCards(2);
        DUES.isTrue("lose(1, true) answers that it was not", !x.lose(1, true));
        DUES.due("lost", x.ofCard(1, 2), 1);
        DUES.isTrue("lose(1, true) again answers that it was", x.lose(1, true));
        DUES.due("still lost", x.ofCard(1, 2), 1);
        DUES.isTrue("lose(1, false) answers that it was", x.lose(1, false));
        DUES.due("found", x.ofCard(1, 2), 0);
        DUES.isTrue("lose(1, false) again answers that it was not", !x.lose(1, false));
        DUES.due("the other card", x.ofCard(0, 2), 0);
        DUES.refuses(x, "lose(2, true)", Rides.INDEX, () -> x.lose(2, true) ? 1 : 0);
        DUES.refuses(x, "lose(-1, true)", Rides.INDEX, () -> x.lose(-1, true) ? 1 : 0);
    }

    private static void pay() {
        TapCap x = Rides.withCards(2);
        DUES.due("pay(1, 1)", x.pay(1, 1), 1);
        DUES.due("pay(1, 999)", x.pay(1, 999), 1000);
        DUES.due("the other purse", x.ofCard(0, 0), 0);
        DUES.due("all purses", x.many(6), 1000);
        DUES.refuses(x, "pay(2, 5)", Rides.INDEX, () -> x.pay(2, 5));
        DUES.refuses(x, "pay(-1, 5)", Rides.INDEX, () -> x.pay(-1, 5));
        DUES.refuses(x, "pay(2, 0): the card first", Rides.INDEX, () -> x.pay(2, 0));
        DUES.refuses(x, "pay(0, 0)", Rides.ARGUMENT, () -> x.pay(0, 0));
        DUES.refuses(x, "pay(0, 1000)", Rides.ARGUMENT, () -> x.pay(0, 1000));
    }

    private static void late() {
        TapCap x = Rides.withCards(1);
        DUES.due("late(5, 27, 200)", x.late(5, 27, 200), 0);
        DUES.due("late(5, 27, 0)", x.late(5, 27, 0), 200);
        DUES.due("late(5, 27, 7)", x.late(5, 27, 7), 0);
        DUES.due("late(5, 26, 1): another day", x.late(5, 26, 1), 0);
        DUES.due("late(4, 27, 1): another line", x.late(4, 27, 1), 0);
        DUES.due("late(0, 0, 3)", x.late(0, 0, 3), 0);
        DUES.refuses("late(-1, 0, 1)", Rides.INDEX, () -> x.late(-1, 0, 1));
        DUES.refuses("late(6, 0, 1)", Rides.INDEX, () -> x.late(6, 0, 1));
        DUES.refuses("late(0, -1, 1)", Rides.INDEX, () -> x.late(0, -1, 1));
        DUES.refuses("late(0, 28, 1)", Rides.INDEX, () -> x.late(0, 28, 1));
        DUES.refuses("late(0, 28, 201)", Rides.INDEX, () -> x.late(0, 28, 201));
        DUES.refuses("late(0, 0, -1)", Rides.ARGUMENT, () -> x.late(0, 0, -1));
        DUES.refuses("late(0, 0, 201)", Rides.ARGUMENT, () -> x.late(0, 0, 201));
        DUES.due("late(0, 0, 4) behind refused ones", x.late(0, 0, 4), 3);
    }
}
