import java.util.ArrayList;
import java.util.List;
import java.util.function.Predicate;

/** The calls that bring a new object to where a question is asked: they can be made again for the next question. */
final class Stand {
    /** Nothing at all: a new object. */
    static final Stand NEW = new Stand("a new object");
    /** All cards are given, and nothing is told yet. */
    static final Stand GIVEN = given();
    /** Three cards, of which 2 is of the person 1, and something of all that can be told and done. */
    static final Stand SOME = some();
    /** Four cards, of which 3 is of the person 2, six tariffs, 40 taps, 28 closed days. */
    static final Stand FULL = full();

    private final String name;
    private final List<Call> calls;

    private Stand(String name) {
        this(name, new ArrayList<>());
    }

    private Stand(String name, List<Call> calls) {
        this.name = name;
        this.calls = calls;
    }

    static List<Stand> all() {
        return List.of(NEW, GIVEN, SOME, FULL);
    }

    static List<Stand> withCards() {
        return List.of(GIVEN, SOME, FULL);
    }

    /** The same, and one call more. */
    Stand then(String call, int... numbers) {
        return then(List.of(Call.of(call, numbers)));
    }

    Stand then(List<Call> more) {
        List<Call> all = new ArrayList<>(calls);
        all.addAll(more);
        return new Stand(name, all);
    }

    Stand times(int count, String call, int... numbers) {
        Stand stand = this;
        for (int i = 0; i < count; i++) {
            stand = stand.then(call, numbers);
        }
        return stand;
    }

    /** The same without some of its calls. */
    Stand without(Predicate<Call> isLeftOut) {
        return new Stand(name, calls.stream().filter(isLeftOut.negate()).toList());
    }

    TapCap made() {
        TapCap x = new TapCap();
        bring(x);
        return x;
    }

    /** Makes the calls on a new object with the document's face. */
    void bring(Object face) {
        for (Call call : calls) {
            call.on(face);
        }
    }

    int size() {
        return calls.size();
    }

    int cards() {
        return this == NEW ? 0 : this == SOME ? 3 : 4;
    }

    /** The number of the card that is tied, or one that is no card. */
    int tied() {
        return this == SOME ? 2 : this == FULL ? 3 : -1;
    }

    @Override
    public String toString() {
        return name;
    }

    private void add(String call, int... numbers) {
        calls.add(Call.of(call, numbers));
    }

    private void addRide(int card, int from, int to, int line, int day, int minute) {
        add("tap", card, from, line, 1, day, minute);
        add("tap", card, to, line, 0, day, minute + Rides.RIDE_MINUTES);
    }

    private static Stand given() {
        Stand stand = new Stand("cards alone");
        for (int card = 0; card < 4; card++) {
            stand.add("card");
        }
        return stand;
    }

    private static Stand some() {
        Stand stand = new Stand("some of all");
        for (int card = 0; card < 3; card++) {
            stand.add("card");
            stand.add("zone", card + 1, card + 2);
            stand.add("carrier", card, card);
        }
        stand.add("tie", 2, 1);
        stand.add("tariff", 7, 3, 2, 9, 40);
        stand.add("tariff", 2, 4, 1, 6, 30);
        stand.addRide(0, 0, 3, 1, 0, 100);
        stand.addRide(0, 3, 2, 2, 0, 130);
        stand.addRide(1, 0, 1, 0, 0, 100);
        stand.addRide(2, 1, 2, 2, 3, 100);
        stand.add("tap", 0, 0, 1, 1, 8, 0);
        stand.add("tap", 1, 2, 2, 0, 9, 1439);
        stand.add("tap", 1, 2, 2, 0, 9, 1439);
        stand.add("lose", 0, 1);
        stand.add("tap", 0, 1, 1, 1, 9, 9);
        stand.add("pay", 2, 50);
        stand.add("late", 1, 0, 45);
        stand.add("late", 2, 9, 29);
        stand.add("refund", 0, 1, 0);
        for (int day = 0; day < 9; day++) {
            stand.add("close");
        }
        stand.add("settle", 1, 0);
        return stand;
    }

    private static Stand full() {
        Stand stand = new Stand("all full");
        for (int card = 0; card < 4; card++) {
            stand.add("card");
            stand.add("pay", card, 999);
        }
        stand.add("tie", 3, 2);
        for (int stop = 0; stop < 10; stop++) {
            stand.add("zone", stop, stop % 4 + 1);
        }
        for (int line = 0; line < 6; line++) {
            stand.add("carrier", line, line % 3);
            stand.add("late", line, 0, 200);
            stand.add("late", line, 27, 30);
        }
        for (int i = 0; i < 5; i++) {
            stand.add("tariff", 6 * i, 2 + i, 5 - i, 10 - i, 40 + i);
        }
        for (int i = 0; i < 20; i++) {
            stand.addRide(i % 4, i * 3 % 10, i * 7 % 10, i % 6, i * 27 / 19, 5 + 40 * i);
        }
        stand.add("refund", 0, 0, 0);
        stand.add("refund", 2, 1, 27);
        for (int day = 0; day < 28; day++) {
            stand.add("close");
        }
        stand.add("settle", 0, 0);
        stand.add("settle", 2, 3);
        return stand;
    }
}
