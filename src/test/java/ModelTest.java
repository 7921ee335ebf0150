import java.util.Random;

/** Runs of calls made up from fixed seeds: TapCap and the model of the document must answer the same. */
public final class ModelTest {
    private static final int RUNS = 500;
    private static final int CALLS = 200;
    private static final String[] TOLD = {"zone", "carrier", "tariff", "card", "tie", "lose", "pay", "late"};
    private static final String[] DONE = {"close", "settle", "refund"};
    private static final String[] ASKED = {"ofCard", "ofDay", "ofLeg", "ofJourney", "ofWeek", "share", "check",
        "many", "meanFare", "wouldCost", "guess", "worth"};

    private final Random random;
    private final TapCap program = new TapCap();
    private final Model model = new Model();
    // How the numbers of a run are spread: few stops, days and minutes make more of them meet.
    private final int stops;
    private final int firstDay;
    private final int days;
    private final int minutes;

    private ModelTest(int seed) {
        random = new Random(seed);
        stops = 2 + random.nextInt(9);
        days = 1 + random.nextInt(12);
        firstDay = random.nextInt(3) == 0 ? 0 : random.nextInt(28 - days);
        minutes = 10 + random.nextInt(300);
    }

    public static void main(String[] args) {
        Dues dues = new Dues("ModelTest");
        for (int seed = 0; seed < RUNS; seed++) {
            new ModelTest(seed).run(dues, seed);
        }
        dues.end();
    }

    private void run(Dues dues, int seed) {
        for (int i = 0; i < CALLS; i++) {
            String name = i < 2 ? "card" : pick();
            Call call = Call.of(name, arguments(name));
            String got = call.on(program);
            String want = call.on(model);
            dues.isTrue("run " + seed + " call " + i + ": " + call + " answered " + got + ", due is " + want + ", that",
                    got.equals(want));
        }
        dues.dueLong("run " + seed + ": digest()", program.digest(), model.digest());
    }

    private String pick() {
        int dice = random.nextInt(100);
        if (dice < 12) return TOLD[random.nextInt(TOLD.length)];
        if (dice < 20) return DONE[random.nextInt(DONE.length)];
        if (dice < 55) return "tap";
        if (dice < 57) return "digest";
        return ASKED[random.nextInt(ASKED.length)];
    }

    private int[] arguments(String name) {
        switch (name) {
            case "zone": return new int[] {stop(), odd(1, 4)};
            case "carrier": return new int[] {line(), odd(0, 2)};
            case "tariff": return new int[] {day(), odd(1, 9), odd(0, 5), odd(1, 20), odd(1, 60)};
            case "tie": return new int[] {odd(0, 3), odd(0, 2)};
            case "lose": return new int[] {odd(0, 3), random.nextInt(4) == 0 ? 1 : 0};
            case "pay": return new int[] {odd(0, 3), odd(1, 999)};
            case "late": return new int[] {line(), day(), random.nextBoolean() ? odd(29, 30) : odd(0, 200)};
            case "tap":
            case "wouldCost": return new int[] {card(), stop(), line(), random.nextInt(2), day(), minute()};
            case "settle": return new int[] {card(), odd(0, 3)};
            case "refund": return new int[] {card(), line(), day()};
            case "ofCard": return new int[] {card(), odd(0, 7)};
            case "ofDay": return new int[] {card(), day(), odd(0, 7)};
            case "ofLeg": return new int[] {card(), day(), odd(0, 3), odd(0, 6)};
            case "ofJourney": return new int[] {card(), day(), odd(0, 2), odd(0, 3)};
            case "ofWeek": return new int[] {card(), odd(0, 3), odd(0, 2)};
            case "share": return new int[] {odd(0, 2), card(), day()};
            case "check": return new int[] {card(), day(), minute()};
            case "many": return new int[] {odd(0, 8)};
            case "meanFare": return new int[] {day()};
            case "guess": return new int[] {card(), day(), stop(), random.nextInt(2)};
            case "worth": return new int[] {card(), odd(0, 3), day()};
            default: return new int[0];
        }
    }

    /** Now and then a number that lies outside. */
    private int odd(int least, int most) {
        int dice = random.nextInt(60);
        if (dice == 0) return least - 1;
        if (dice == 1) return most + 1;
        if (dice == 2 && random.nextInt(4) == 0) return random.nextInt();
        return least + random.nextInt(most - least + 1);
    }

    private int card() {
        return random.nextInt(3) > 0 ? random.nextInt(2) : odd(0, 3);
    }

    private int stop() {
        return random.nextInt(60) == 0 ? odd(0, 9) : random.nextInt(stops);
    }

    private int line() {
        return random.nextInt(3) > 0 ? random.nextInt(3) : odd(0, 5);
    }

    private int day() {
        return random.nextInt(8) == 0 ? odd(0, 27) : firstDay + random.nextInt(days);
    }

    private int minute() {
        return random.nextInt(20) == 0 ? odd(0, 1439) : 480 + random.nextInt(minutes);
    }
}
