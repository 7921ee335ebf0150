import java.util.List;

/** A test for each sentence of the promises 1 to 9: a new object, and what is told. */
public final class Promises1To9Test {
    private static final Sentences S = new Sentences("Promises1To9Test", "Promise 1", "Promise 2", "Promise 3",
            "Promise 4", "Promise 5", "Promise 6", "Promise 7", "Promise 8", "Promise 9");

    public static void main(String[] args) {
        newObject();
        zone();
        zoneRefused();
        carrier();
        carrierRefused();
        tariff();
        tariffArguments();
        tariffState();
        card();
        tie();
        tieIndex();
        tieArgument();
        tieState();
        lose();
        pay();
        payRefused();
        late();
        lateRefused();
        S.end();
    }

    private static void newObject() {
        S.says("Promise 1", "Creates a region without CARDS.");
        int[] many = {0, 0, 0, 0, 0, 1, 0, 0, 0};
        for (int what = 0; what < many.length; what++) {
            S.answers(Stand.NEW, Call.of("many", what), many[what]);
        }
        S.refused(Rides.INDEX, Stand.NEW, List.of(Call.of("lose", 0, 1), Call.of("pay", 0, 1), Call.of("tie", 0, 0),
                Call.of("tap", 0, 0, 0, 1, 0, 0), Call.of("settle", 0, 0), Call.of("refund", 0, 0, 0),
                Call.of("ofCard", 0, 0), Call.of("ofDay", 0, 0, 0), Call.of("ofLeg", 0, 0, 0, 0),
                Call.of("ofJourney", 0, 0, 0, 0), Call.of("ofWeek", 0, 0, 0), Call.of("share", 0, 0, 0)));
        S.refused(Rides.INDEX, Stand.NEW, List.of(Call.of("check", 0, 0, 0), Call.of("wouldCost", 0, 0, 0, 1, 0, 0),
                Call.of("guess", 0, 0, 0, 1), Call.of("worth", 0, 0, 0)));
        S.answers(Stand.NEW, Call.of("card"), 0);
        S.answers(Stand.NEW, Call.of("close"), 0);
        S.answers(Stand.NEW, Call.of("meanFare", 27), 0.0);
        S.answers(Stand.NEW.times(28, "close"), Call.of("close"), "IllegalStateException");
        TapCap other = Stand.FULL.made();
        S.due("beside a full one", new TapCap().many(0), 0);
        S.due("the full one beside it", other.many(0), 4);
    }

    private static void zone() {
        S.says("Promise 2", "Tells the ZONE of a STOP.");
        for (int stop = 0; stop <= 9; stop++) {
            for (int zone = 1; zone <= 4; zone++) {
                TapCap x = Rides.withCards(1);
                x.zone(stop, zone);
                for (int other = 0; other <= 9; other++) {
                    x.tap(0, other, 0, true, other, 0);
                    S.due("zone of " + other, x.ofJourney(0, other, 0, 2), other == stop ? zone : 1);
                }
            }
        }
        S.says("Promise 2", "Returns that before.");
        for (int stop = 0; stop <= 9; stop++) {
            TapCap x = new TapCap();
            int before = 1;
            for (int zone : new int[] {1, 4, 4, 2, 3, 1, 1}) {
                S.due("zone(" + stop + ", " + zone + ")", x.zone(stop, zone), before);
                before = zone;
            }
        }
    }

    private static void zoneRefused() {
        S.says("Promise 2", "Throws `IndexOutOfBoundsException` if stop is not 0 to 9");
        S.refusedOutside(Rides.INDEX, Stand.all(), 0, 9, stop -> Call.of("zone", stop, 4));
        S.answers(Stand.NEW, Call.of("zone", 0, 4), 1);
        S.answers(Stand.FULL, Call.of("zone", 9, 4), 2);
        S.says("Promise 2", "Throws `IllegalArgumentException` if zone is not 1 to 4");
        S.refusedOutside(Rides.ARGUMENT, Stand.all(), 1, 4, zone -> Call.of("zone", 0, zone));
        S.refusedOutside(Rides.ARGUMENT, Stand.all(), 1, 4, zone -> Call.of("zone", 9, zone));
        S.answers(Stand.NEW, Call.of("zone", 5, 1), 1);
        S.answers(Stand.FULL, Call.of("zone", 3, 1), 4);
    }

    private static void carrier() {
        S.says("Promise 3", "Tells the CARRIER of a LINE.");
        for (int line = 0; line <= 5; line++) {
            for (int carrier = 0; carrier <= 2; carrier++) {
                TapCap x = Rides.withCards(1);
                x.carrier(line, carrier);
                for (int other = 0; other <= 5; other++) {
                    x.tap(0, 0, other, true, other, 0);
                    S.due("share by the line " + other, x.share(other == line ? carrier : 0, 0, other), 2);
                }
            }
        }
        S.says("Promise 3", "Returns that before.");
        for (int line = 0; line <= 5; line++) {
            TapCap x = new TapCap();
            int before = 0;
            for (int carrier : new int[] {0, 2, 2, 1, 0, 0}) {
                S.due("carrier(" + line + ", " + carrier + ")", x.carrier(line, carrier), before);
                before = carrier;
            }
        }
    }

    private static void carrierRefused() {
        S.says("Promise 3", "Throws `IndexOutOfBoundsException` if line is not 0 to 5, or carrier not 0 to 2");
        S.refusedOutside(Rides.INDEX, Stand.all(), 0, 5, line -> Call.of("carrier", line, 2));
        S.refusedOutside(Rides.INDEX, Stand.all(), 0, 2, carrier -> Call.of("carrier", 0, carrier));
        S.refusedOutside(Rides.INDEX, Stand.all(), 0, 2, carrier -> Call.of("carrier", 5, carrier));
        S.answers(Stand.NEW, Call.of("carrier", 5, 2), 0);
        S.answers(Stand.FULL, Call.of("carrier", 5, 0), 2);
    }

    private static void tariff() {
        S.says("Promise 4", "Tells a TARIFF.");
        for (int day = 0; day <= 27; day++) {
            TapCap x = Rides.withCards(1);
            x.tap(0, 0, 0, true, day, 0);
            x.tap(0, 0, 0, true, 0, 100);
            x.tap(0, 0, 0, true, 27, 200);
            x.tariff(day, 7, 0, 50, 200);
            S.due("fare of the day " + day, x.ofJourney(0, day, 0, 3), 7);
            S.due("fare of the day 0", x.ofJourney(0, 0, 0, 3), day == 0 ? 7 : 2);
            S.due("fare of the day 27", x.ofJourney(0, 27, 0, 3), 7);
        }
        S.says("Promise 4", "Returns how many there are.");
        TapCap x = new TapCap();
        for (int count = 2; count <= 6; count++) {
            S.due("tariff", x.tariff(27 - count, 1, 0, 1, 1), count);
            S.due("how many", x.many(5), count);
        }
    }

    private static void tariffArguments() {
        S.says("Promise 4", "Throws `IllegalArgumentException` if day is not 0 to 27, base not 1 to 9, step not 0 to 5, "
                + "ticket not 1 to 50, or weekly not 1 to 200");
        S.refusedOutside(Rides.ARGUMENT, Stand.all(), 0, 27, day -> Call.of("tariff", day, 1, 0, 1, 1));
        S.refusedOutside(Rides.ARGUMENT, Stand.all(), 1, 9, base -> Call.of("tariff", 27, base, 0, 1, 1));
        S.refusedOutside(Rides.ARGUMENT, Stand.all(), 0, 5, step -> Call.of("tariff", 27, 1, step, 1, 1));
        S.refusedOutside(Rides.ARGUMENT, Stand.all(), 1, 50, ticket -> Call.of("tariff", 27, 1, 0, ticket, 1));
        S.refusedOutside(Rides.ARGUMENT, Stand.all(), 1, 200, weekly -> Call.of("tariff", 27, 1, 0, 1, weekly));
        int[][] inside = {{0, 1, 0, 1, 1}, {27, 1, 0, 1, 1}, {0, 9, 0, 1, 1}, {0, 1, 5, 1, 1}, {0, 1, 0, 50, 1},
            {0, 1, 0, 1, 200}, {27, 9, 5, 50, 200}};
        for (int[] numbers : inside) {
            S.answers(Stand.NEW, Call.of("tariff", numbers), 2);
        }
    }

    private static void tariffState() {
        S.says("Promise 4", "Throws `IllegalStateException` if there are 6, or that DAY is CLOSED");
        Stand five = Stand.GIVEN.times(4, "tariff", 0, 3, 1, 5, 20);
        S.answers(five, Call.of("tariff", 0, 1, 0, 1, 1), 6);
        Stand six = five.then("tariff", 0, 3, 1, 5, 20);
        S.refused(Rides.STATE, six, List.of(Call.of("tariff", 0, 1, 0, 1, 1), Call.of("tariff", 27, 1, 0, 1, 1)));
        S.refused(Rides.STATE, Stand.FULL, List.of(Call.of("tariff", 27, 1, 0, 1, 1)));
        for (int closed : new int[] {0, 1, 7, 27, 28}) {
            Stand stand = Stand.GIVEN.times(closed, "close");
            if (closed > 0) {
                S.refused(Rides.STATE, stand, List.of(Call.of("tariff", closed - 1, 1, 0, 1, 1),
                        Call.of("tariff", 0, 1, 0, 1, 1)));
            }
            if (closed < 28) {
                S.answers(stand, Call.of("tariff", closed, 1, 0, 1, 1), 2);
                S.answers(stand, Call.of("tariff", 27, 1, 0, 1, 1), 2);
            }
        }
    }

    private static void card() {
        S.says("Promise 5", "Gives a CARD.");
        for (int count = 1; count <= 4; count++) {
            TapCap x = Rides.withCards(count);
            S.due("cards", x.many(0), count);
            int[] first = {0, count - 1, 0, 0, 0, 0, 0, 0};
            for (int what = 0; what < first.length; what++) {
                S.due("the newest one, ofCard " + what, x.ofCard(count - 1, what), first[what]);
            }
        }
        S.says("Promise 5", "Returns its number.");
        TapCap x = new TapCap();
        for (int number = 0; number < 4; number++) {
            S.due("card", x.card(), number);
        }
        S.answers(Stand.SOME, Call.of("card"), 3);
        S.says("Promise 5", "Throws `IllegalStateException` if there were 4");
        S.refused(Rides.STATE, Stand.GIVEN, List.of(Call.of("card"), Call.of("card")));
        S.refused(Rides.STATE, Stand.FULL, "card");
        S.answers(Stand.GIVEN.then("tie", 3, 0), Call.of("card"), "IllegalStateException");
    }

    private static void tie() {
        S.says("Promise 6", "Ties a CARD to a PERSON.");
        for (int card = 1; card < 4; card++) {
            for (int person = 0; person < card; person++) {
                Stand stand = Stand.GIVEN.then("tap", card, 0, 0, 1, 0, 0).then("tie", card, person);
                for (int other = 0; other < 4; other++) {
                    S.answers(stand, Call.of("ofCard", other, 1), other == card ? person : other);
                }
                S.answers(stand, Call.of("ofDay", person, 0, 0), 1);
            }
        }
        S.says("Promise 6", "Returns the PERSON before.");
        TapCap x = Rides.withCards(4);
        int before = 3;
        for (int person : new int[] {2, 2, 0, 1, 0}) {
            S.due("tie(3, " + person + ")", x.tie(3, person), before);
            before = person;
        }
        S.answers(Stand.GIVEN, Call.of("tie", 1, 0), 1);
    }

    private static void tieIndex() {
        S.says("Promise 6", "Throws `IndexOutOfBoundsException` if there is no such CARD, or person is no PERSON");
        S.refusedWithoutCard(card -> Call.of("tie", card, 0));
        S.refusedWithoutPerson(person -> Call.of("tie", 1, person));
        Stand tied = Stand.GIVEN.then("tie", 1, 0);
        S.refused(Rides.INDEX, tied, List.of(Call.of("tie", 2, 1), Call.of("tie", 3, 1)));
        S.answers(tied, Call.of("tie", 3, 2), 3);
        S.answers(tied, Call.of("tie", 3, 0), 3);
    }

    private static void tieArgument() {
        S.says("Promise 6", "Throws `IllegalArgumentException` if person is not less than card");
        for (int card = 0; card < 4; card++) {
            for (int person = card; person < 4; person++) {
                S.refused(Rides.ARGUMENT, Stand.GIVEN, "tie", card, person);
            }
        }
        S.refused(Rides.ARGUMENT, Stand.SOME, "tie", 1, 1);
        S.refused(Rides.ARGUMENT, Stand.FULL, "tie", 2, 2);
    }

    private static void tieState() {
        S.says("Promise 6", "Throws `IllegalStateException` if a CARD is of the PERSON that is the number of this one, "
                + "but for itself");
        Stand tied = Stand.GIVEN.then("tie", 3, 1);
        S.refused(Rides.STATE, tied, "tie", 1, 0);
        S.refused(Rides.STATE, tied.then("tie", 2, 1), "tie", 1, 0);
        S.refused(Rides.STATE, Stand.FULL, List.of(Call.of("tie", 2, 0), Call.of("tie", 2, 1)));
        S.answers(tied, Call.of("tie", 2, 0), 2);
        S.answers(tied, Call.of("tie", 3, 0), 1);
        S.answers(tied, Call.of("tie", 3, 1), 1);
        S.answers(tied.then("tie", 3, 0), Call.of("tie", 1, 0), 1);
        S.answers(tied.then("tie", 3, 2), Call.of("tie", 1, 0), 1);
    }

    private static void lose() {
        S.says("Promise 7", "A CARD is LOST, or found.");
        Stand lost = Stand.GIVEN.then("lose", 3, 1);
        S.answers(lost, Call.of("tap", 3, 0, 0, 1, 0, 0), -2);
        S.answers(lost, Call.of("tap", 2, 0, 0, 1, 0, 0), 1);
        S.answers(lost, Call.of("check", 3, 0, 0), 2);
        S.answers(lost.then("lose", 3, 0), Call.of("tap", 3, 0, 0, 1, 0, 0), 1);
        S.says("Promise 7", "Returns whether it was.");
        for (int card = 0; card < 4; card++) {
            TapCap x = Rides.withCards(4);
            boolean before = false;
            for (boolean is : new boolean[] {false, true, true, false, false, true}) {
                S.isTrue("lose(" + card + ", " + is + ") tells what was", x.lose(card, is) == before);
                before = is;
            }
        }
        S.says("Promise 7", "Throws `IndexOutOfBoundsException` if there is no such CARD");
        S.refusedWithoutCard(card -> Call.of("lose", card, 1));
        S.refusedWithoutCard(card -> Call.of("lose", card, 0));
        S.answers(Stand.SOME, Call.of("lose", 2, 1), false);
    }

    private static void pay() {
        S.says("Promise 8", "Pays into a PURSE.");
        for (int card = 0; card < 4; card++) {
            TapCap x = Rides.withCards(4);
            x.pay(card, 7);
            for (int other = 0; other < 4; other++) {
                S.due("purse of " + other, x.ofCard(other, 0), other == card ? 7 : 0);
            }
            S.due("all purses", x.many(6), 7);
        }
        S.says("Promise 8", "Returns what is in it then.");
        TapCap x = Rides.withCards(1);
        for (int times = 1; times <= 500; times++) {
            S.due("pay(0, 999), " + times + " times", x.pay(0, 999), 999 * times);
        }
        Stand below = Stand.GIVEN.then("tariff", 0, 9, 5, 50, 200).then("tap", 0, 0, 0, 1, 0, 0).then("close");
        S.answers(below, Call.of("pay", 0, 1), -8);
        S.answers(below, Call.of("pay", 0, 9), 0);
        S.answers(Stand.GIVEN, Call.of("pay", 3, 1), 1);
    }

    private static void payRefused() {
        S.says("Promise 8", "Throws `IndexOutOfBoundsException` if there is no such CARD");
        S.refusedWithoutCard(card -> Call.of("pay", card, 5));
        S.answers(Stand.SOME, Call.of("pay", 2, 5), 55);
        S.says("Promise 8", "Throws `IllegalArgumentException` if coins is not 1 to 999");
        S.refusedOutside(Rides.ARGUMENT, Stand.withCards(), 1, 999, coins -> Call.of("pay", 0, coins));
        S.answers(Stand.GIVEN, Call.of("pay", 0, 1), 1);
        S.answers(Stand.GIVEN, Call.of("pay", 0, 999), 999);
    }

    private static void late() {
        S.says("Promise 9", "Tells by how much a LINE is late on a DAY.");
        Stand told = Stand.GIVEN.then("late", 2, 13, 30).then("late", 5, 27, 200).then("late", 0, 0, 29);
        for (int line = 0; line < 6; line++) {
            for (int day : new int[] {0, 12, 13, 14, 27}) {
                boolean isLate = line == 2 && day == 13 || line == 5 && day == 27;
                S.answers(told, Call.of("refund", 0, line, day), isLate ? 0 : "IllegalStateException");
            }
        }
        S.says("Promise 9", "Returns that before (0).");
        for (int line = 0; line < 6; line++) {
            TapCap x = new TapCap();
            for (int day = 0; day < 28; day++) {
                S.due("late at first", x.late(line, day, 200), 0);
                S.due("late by 200", x.late(line, day, 0), 200);
                S.due("late by 0", x.late(line, day, 1 + day), 0);
            }
            for (int day = 0; day < 28; day++) {
                S.due("late as told", x.late(line, day, 0), 1 + day);
            }
        }
    }

    private static void lateRefused() {
        S.says("Promise 9", "Throws `IndexOutOfBoundsException` if line is not 0 to 5, or day is not 0 to 27");
        S.refusedOutside(Rides.INDEX, Stand.all(), 0, 5, line -> Call.of("late", line, 0, 30));
        S.refusedOutside(Rides.INDEX, Stand.all(), 0, 5, line -> Call.of("late", line, 27, 30));
        S.refusedOutside(Rides.INDEX, Stand.all(), 0, 27, day -> Call.of("late", 0, day, 30));
        S.refusedOutside(Rides.INDEX, Stand.all(), 0, 27, day -> Call.of("late", 5, day, 30));
        S.answers(Stand.FULL, Call.of("late", 5, 27, 0), 30);
        S.says("Promise 9", "Throws `IllegalArgumentException` if minutes is not 0 to 200");
        S.refusedOutside(Rides.ARGUMENT, Stand.all(), 0, 200, minutes -> Call.of("late", 0, 0, minutes));
        S.answers(Stand.FULL, Call.of("late", 0, 0, 0), 200);
        S.answers(Stand.FULL, Call.of("late", 0, 0, 200), 200);
    }
}
