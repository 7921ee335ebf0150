/** Asks at a stand, on as many new objects as their 512 calls ask for. */
final class Asker {
    private static final int MOST_CALLS = 512;

    private final Stand stand;
    private TapCap x;
    private int left = 0;

    Asker(Stand stand) {
        this.stand = stand;
    }

    /** Back to the stand, if what was asked changed something. */
    void makeAnew() {
        x = stand.made();
        left = MOST_CALLS - stand.size();
    }

    String answer(Call call) {
        if (left == 0) {
            makeAnew();
        }
        left--;
        return call.on(x);
    }

    String answer(String name, int... numbers) {
        return answer(Call.of(name, numbers));
    }

    /** The answer of a call that is not refused there. */
    int ask(String name, int... numbers) {
        return Integer.parseInt(answer(name, numbers));
    }
}
