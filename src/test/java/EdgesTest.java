/** Every method with all edges of its numbers together, at every stand: TapCap and the model answer the same. */
public final class EdgesTest {
    private static final Dues DUES = new Dues("EdgesTest");
    private static final int MOST_CALLS = 512;
    // With the greatest number that each argument may have, or "is" for a boolean.
    private static final String[] METHODS = {"zone 9 4", "carrier 5 2", "tariff 27 9 5 50 200", "card", "tie 3 3",
        "lose 3 is", "pay 3 999", "late 5 27 200", "tap 3 9 5 is 27 1439", "close", "settle 3 3", "refund 3 5 27",
        "ofCard 3 7", "ofDay 3 27 7", "ofLeg 3 27 1 6", "ofJourney 3 27 1 3", "ofWeek 3 3 2", "share 2 3 27",
        "check 3 27 1439", "many 8", "meanFare 27", "wouldCost 3 9 5 is 27 1439", "guess 3 27 9 is", "worth 3 3 27",
        "worth 2 2 20", "digest"};

    private final Stand stand;
    private TapCap program;
    private Model model;
    private int left = 0;

    private EdgesTest(Stand stand) {
        this.stand = stand;
    }

    public static void main(String[] args) {
        for (Stand stand : Stand.all()) {
            EdgesTest test = new EdgesTest(stand);
            for (String method : METHODS) {
                String[] parts = method.split(" ");
                test.askAll(parts, new int[parts.length - 1], 0);
            }
        }
        DUES.end();
    }

    private void askAll(String[] parts, int[] numbers, int place) {
        if (place == numbers.length) {
            ask(Call.of(parts[0], numbers));
            return;
        }
        for (int edge : edges(parts[place + 1])) {
            numbers[place] = edge;
            askAll(parts, numbers, place + 1);
        }
    }

    private static int[] edges(String greatest) {
        if (greatest.equals("is")) {
            return new int[] {0, 1};
        }
        int most = Integer.parseInt(greatest);
        return new int[] {0, 1, most, -1, most + 1, Integer.MIN_VALUE, Integer.MAX_VALUE};
    }

    private void ask(Call call) {
        if (left == 0) {
            program = new TapCap();
            model = new Model();
            stand.bring(program);
            stand.bring(model);
            left = MOST_CALLS - stand.size();
        }
        left--;
        String got = call.on(program);
        String want = call.on(model);
        DUES.isTrue(stand + ": " + call + " answered " + got + ", due is " + want + ", that", got.equals(want));
    }
}
