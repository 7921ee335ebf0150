import java.util.ArrayList;
import java.util.HashSet;
import java.util.List;
import java.util.Random;
import java.util.Set;

/** A stand that calls made up from a seed come to, what they told on the way there, and what is asked there. */
final class MadeUp {
    static final int DAYS = 28;
    static final int WEEKS = 4;
    private static final int RUNS = 40;
    // Fewer than can be kept: so a tap that is left out makes no place for another one.
    private static final int TAPS = 32;
    private static final List<MadeUp> ALL = makeAll();

    Stand stand = Stand.NEW;
    final Asker asker;
    final int[] zones = {1, 1, 1, 1, 1, 1, 1, 1, 1, 1};
    final int[] carriers = new int[6];
    final List<int[]> tariffs = new ArrayList<>(List.of(new int[] {0, 2, 1, 5, 20}));
    final Set<String> refunded = new HashSet<>();
    int paid = 0;
    int kept = 0;
    int denied = 0;
    int doubled = 0;

    private final int seed;
    private final Random random;
    private final TapCap made = new TapCap();
    private final int days;
    private int day = 0;
    private int minute = 300;

    private MadeUp(int seed) {
        this.seed = seed;
        random = new Random(seed);
        days = seed % 4 == 0 ? DAYS : 3 + random.nextInt(7);
        int cards = 1 + random.nextInt(4);
        for (int card = 0; card < cards; card++) {
            told("card");
        }
        for (int stop = 0; stop < 6; stop++) {
            tellZone(stop);
            tellCarrier(stop);
        }
        tellTariff();
        for (int tap = 0; tap < TAPS; tap++) {
            doSomething(random.nextInt(12));
            comeTap(random.nextInt(15) == 0);
        }
        asker = new Asker(stand);
    }

    static List<MadeUp> all() {
        return ALL;
    }

    private static List<MadeUp> makeAll() {
        List<MadeUp> all = new ArrayList<>();
        for (int seed = 1; seed <= RUNS; seed++) {
            all.add(new MadeUp(seed));
        }
        return List.copyOf(all);
    }

    int ask(String name, int... numbers) {
        return asker.ask(name, numbers);
    }

    List<Integer> persons() {
        List<Integer> persons = new ArrayList<>();
        for (int card = 0; card < ask("many", 0); card++) {
            if (ask("ofCard", card, 1) == card) {
                persons.add(card);
            }
        }
        return persons;
    }

    /** The tariff of a day: its day, base, step, ticket and weekly. */
    int[] tariffOf(int day) {
        int[] last = tariffs.get(0);
        for (int[] tariff : tariffs) {
            last = tariff[0] <= day ? tariff : last;
        }
        return last;
    }

    /** Another tap, somewhat like those that came. */
    int[] anotherTap(Random its) {
        return new int[] {its.nextInt(ask("many", 0)), its.nextInt(6), its.nextInt(6), its.nextInt(2),
            its.nextInt(days), 300 + its.nextInt(400)};
    }

    @Override
    public String toString() {
        return "run " + seed;
    }

    private String told(String name, int... numbers) {
        Call call = Call.of(name, numbers);
        stand = stand.then(List.of(call));
        return call.on(made);
    }

    private void tellZone(int stop) {
        zones[stop] = 1 + random.nextInt(4);
        told("zone", stop, zones[stop]);
    }

    private void tellCarrier(int line) {
        carriers[line] = random.nextInt(3);
        told("carrier", line, carriers[line]);
    }

    private void tellTariff() {
        // Tickets are cheap, so that they are worth it by the few taps of a run.
        int[] tariff = {random.nextInt(2) * random.nextInt(days), 1 + random.nextInt(9), random.nextInt(3),
            1 + random.nextInt(10), 1 + random.nextInt(30)};
        if (!told("tariff", tariff).endsWith("Exception")) {
            tariffs.add(tariff);
        }
    }

    private void askRefund() {
        int line = random.nextInt(6);
        int day = random.nextInt(days);
        int person = random.nextInt(2);
        told("late", line, day, 30 + random.nextInt(100));
        if (!told("refund", person, line, day).endsWith("Exception")) {
            refunded.add(Call.of("refund", person, line, day).toString());
        }
    }

    private void payIn() {
        int coins = 1 + random.nextInt(50);
        told("pay", 0, coins);
        paid += coins;
    }

    private void doSomething(int dice) {
        switch (dice) {
            case 0 -> tellZone(random.nextInt(10));
            case 1 -> tellTariff();
            case 2 -> askRefund();
            case 3 -> payIn();
            case 4 -> told("settle", random.nextInt(2), random.nextInt(2));
            case 5 -> told("lose", 0, random.nextInt(2) * random.nextInt(2));
            case 6 -> told(random.nextInt(3) == 0 ? "tie" : "lose", random.nextInt(4), 0);
            case 7, 8 -> told("close");
            default -> tellCarrier(random.nextInt(6));
        }
    }

    private void comeTap(boolean isAgain) {
        day = random.nextInt(4) == 0 ? random.nextInt(days) : day;
        minute = random.nextInt(5) == 0 ? 300 + random.nextInt(400) : Math.min(1439, minute + random.nextInt(23));
        int[] tap = {random.nextInt(random.nextInt(4) + 1), random.nextInt(6), random.nextInt(6), random.nextInt(2),
            day, minute};
        String answer = told("tap", tap);
        note(answer);
        if (isAgain) {
            note(told("tap", tap));
        }
    }

    private void note(String answer) {
        denied += answer.equals("-2") ? 1 : 0;
        doubled += answer.equals("-3") ? 1 : 0;
        kept += answer.startsWith("-") || answer.endsWith("Exception") ? 0 : 1;
    }
}
