import java.util.ArrayList;
import java.util.HashMap;
import java.util.List;
import java.util.Map;
import java.util.function.IntFunction;

/** A test whose answers each stand under a sentence of the document: where it is said, and its words. */
final class Sentences {
    private static final Map<Stand, List<String>> BEFORE = new HashMap<>();

    private final Dues dues;
    private final String[] sections;
    private final Doc doc = new Doc();
    private final Map<String, List<String>> said = new HashMap<>();
    private String now = "";
    private int askedBefore = -1;

    /** The test has a sentence for all that these sections say. */
    Sentences(String test, String... sections) {
        dues = new Dues(test);
        this.sections = sections;
    }

    /** What is asked from here on is due by this sentence. */
    void says(String section, String words) {
        isAsked();
        now = "";
        name(section, words);
    }

    /** What is asked from here on is due by these two sentences together. */
    void saysBoth(String section, String words, String otherSection, String otherWords) {
        says(section, words);
        name(otherSection, otherWords);
    }

    private void name(String section, String words) {
        now += section + ", \"" + words + "\": ";
        said.computeIfAbsent(section, key -> new ArrayList<>()).add(words);
        dues.isTrue(now + "the document says so, that", doc.says(section, words));
        askedBefore = dues.asked();
    }

    void due(String call, double got, double want) {
        dues.due(now + call, got, want);
    }

    void dueLong(String call, long got, long want) {
        dues.dueLong(now + call, got, want);
    }

    void isTrue(String what, boolean is) {
        dues.isTrue(now + what, is);
    }

    void refuses(String call, Class<? extends RuntimeException> want, Dues.Call it) {
        dues.refuses(now + call, want, it);
    }

    /** On a new object at that stand. */
    void answers(Stand stand, Call call, Object want) {
        String got = call.on(stand.made());
        dues.isTrue(now + stand + ": " + call + " answered " + got + ", due is " + want + ", that",
                got.equals(String.valueOf(want)));
    }

    /** Each of the calls, one behind the other, is refused, and behind them everything answers as before. */
    void refused(Class<? extends RuntimeException> want, Stand stand, List<Call> calls) {
        TapCap x = stand.made();
        for (Call call : calls) {
            String got = call.on(x);
            dues.isTrue(now + stand + ": " + call + " answered " + got + ", due is " + want.getSimpleName() + ", that",
                    got.equals(want.getSimpleName()));
        }
        changesNothing(stand, calls);
    }

    /** Each of the calls throws or not, as it is said, and behind them everything answers as before. */
    void changesNothing(Stand stand, boolean isThrowing, List<Call> calls) {
        TapCap x = stand.made();
        for (Call call : calls) {
            String got = call.on(x);
            dues.isTrue(now + stand + ": " + call + " throws or not as it is due, not " + got + ", that",
                    got.endsWith("Exception") == isThrowing);
        }
        changesNothing(stand, calls);
    }

    private void changesNothing(Stand stand, List<Call> calls) {
        List<String> before = BEFORE.computeIfAbsent(stand, Everything::askedAt);
        String changed = firstChange(before, Everything.askedAt(stand.then(calls)));
        dues.isTrue(now + stand + ": behind " + calls + " " + changed + ", that", changed.isEmpty());
    }

    void refused(Class<? extends RuntimeException> want, Stand stand, String call, int... numbers) {
        refused(want, stand, List.of(Call.of(call, numbers)));
    }

    void refusedOutside(Class<? extends RuntimeException> want, List<Stand> stands, int least, int most,
            IntFunction<Call> call) {
        for (Stand stand : stands) {
            refused(want, stand, outside(least, most).stream().map(call::apply).toList());
        }
    }

    /** At each stand each number that is no card's there. */
    void refusedWithoutCard(IntFunction<Call> call) {
        for (Stand stand : Stand.all()) {
            refusedOutside(Rides.INDEX, List.of(stand), 0, stand.cards() - 1, call);
        }
    }

    /** At each stand each number that is no person's there, one of a tied card too. */
    void refusedWithoutPerson(IntFunction<Call> call) {
        for (Stand stand : Stand.all()) {
            List<Integer> numbers = new ArrayList<>(outside(0, stand.cards() - 1));
            numbers.add(stand.tied());
            refused(Rides.INDEX, stand, numbers.stream().map(call::apply).toList());
        }
    }

    void end() {
        isAsked();
        for (String section : sections) {
            String left = doc.without(section, said.getOrDefault(section, List.of()));
            dues.isTrue(section + " has a test for all it says, also for \"" + left + "\": that", left.isEmpty());
        }
        dues.end();
    }

    /** Just outside, far outside, at the ends of what an int holds, and such as a narrower number would mistake. */
    static List<Integer> outside(int least, int most) {
        return List.of(least - 1, most + 1, -most - 2, most + 256, least + 65536, Integer.MIN_VALUE,
                Integer.MIN_VALUE + Math.max(most, 0), Integer.MAX_VALUE);
    }

    private void isAsked() {
        dues.isTrue(now + "something is asked, that", dues.asked() > askedBefore);
    }

    private static String firstChange(List<String> before, List<String> after) {
        for (int i = 0; i < before.size(); i++) {
            if (!before.get(i).equals(after.get(i))) {
                return "\"" + before.get(i) + "\" is now \"" + after.get(i) + "\"";
            }
        }
        return "";
    }
}
