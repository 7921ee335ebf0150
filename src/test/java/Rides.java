/** What the tests of the promises begin with. */
final class Rides {
    static final Class<IndexOutOfBoundsException> INDEX = IndexOutOfBoundsException.class;
    static final Class<IllegalArgumentException> ARGUMENT = IllegalArgumentException.class;
    static final Class<IllegalStateException> STATE = IllegalStateException.class;
    static final int RIDE_MINUTES = 15;

    private Rides() {
    }

    static TapCap withCards(int count) {
        TapCap x = new TapCap();
        for (int i = 0; i < count; i++) {
            x.card();
        }
        return x;
    }

    /** Two cards, and the stops 1, 2 and 3 in the zones 2, 3 and 4; all others lie in 1. */
    static TapCap withZones() {
        TapCap x = withCards(2);
        x.zone(1, 2);
        x.zone(2, 3);
        x.zone(3, 4);
        return x;
    }

    /** In at that minute, out 15 minutes behind it: a leg without a guess. */
    static void ride(TapCap x, int card, int from, int to, int line, int day, int minute) {
        x.tap(card, from, line, true, day, minute);
        x.tap(card, to, line, false, day, minute + RIDE_MINUTES);
    }

    /** As many rides within zone 1 (fare 2 each by the first tariff), each a journey by itself. */
    static void shortRides(TapCap x, int card, int day, int count) {
        for (int i = 0; i < count; i++) {
            ride(x, card, 0, 0, 0, day, 100 * i);
        }
    }

    /** As many ins, each a leg and a journey by itself: it ends by a guess, at that stop if none is known. */
    static void ins(TapCap x, int card, int stop, int day, int count) {
        for (int i = 0; i < count; i++) {
            x.tap(card, stop, 0, true, day, 30 * i);
        }
    }

    static void close(TapCap x, int days) {
        for (int i = 0; i < days; i++) {
            x.close();
        }
    }
}
