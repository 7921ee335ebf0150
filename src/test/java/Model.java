import java.util.ArrayList;
import java.util.Comparator;
import java.util.HashMap;
import java.util.HashSet;
import java.util.List;
import java.util.Map;
import java.util.Set;

/** The document said once more with lists and sets, as plainly as can be, to be held against TapCap. */
final class Model {
    record Tap(int card, int stop, int line, boolean isIn, int day, int minute) { }

    record Tariff(int day, int base, int step, int ticket, int weekly) { }

    record Leg(int from, int to, int begin, int end, int line, int guess) { }

    record Asked(int person, int line, int day) { }

    static final class Journey {
        final List<Leg> legs = new ArrayList<>();
        int zones;
        int top;
        int fare;
    }

    static final class Card {
        int purse;
        int person;
        boolean isLost;
        final int[] charged = new int[4];
    }

    private final int[] zones = {1, 1, 1, 1, 1, 1, 1, 1, 1, 1};
    private final int[] carriers = new int[6];
    private final int[][] lates = new int[6][28];
    private final List<Tariff> tariffs = new ArrayList<>(List.of(new Tariff(0, 2, 1, 5, 20)));
    private final List<Card> cards = new ArrayList<>();
    private List<Tap> taps = new ArrayList<>();
    // Legs are found once for the taps and ties that there are, as each guess asks for those of all earlier days.
    private final Map<Integer, List<Leg>> legsFound = new HashMap<>();
    private final Set<Asked> asked = new HashSet<>();
    private int denied;
    private int doubled;
    private int closed;
    private int refunds;
    private int chargedEver;

    public int zone(int stop, int zone) {
        index(stop >= 0 && stop <= 9);
        argument(zone >= 1 && zone <= 4);
        int old = zones[stop];
        zones[stop] = zone;
        return old;
    }

    public int carrier(int line, int carrier) {
        index(line >= 0 && line <= 5 && carrier >= 0 && carrier <= 2);
        int old = carriers[line];
        carriers[line] = carrier;
        return old;
    }

    public int tariff(int day, int base, int step, int ticket, int weekly) {
        argument(day >= 0 && day <= 27 && base >= 1 && base <= 9 && step >= 0 && step <= 5);
        argument(ticket >= 1 && ticket <= 50 && weekly >= 1 && weekly <= 200);
        state(tariffs.size() != 6 && day >= closed);
        tariffs.add(new Tariff(day, base, step, ticket, weekly));
        return tariffs.size();
    }

    public int card() {
        state(cards.size() != 4);
        Card card = new Card();
        card.person = cards.size();
        cards.add(card);
        return card.person;
    }

    public int tie(int card, int person) {
        index(isCard(card) && isPerson(person));
        argument(person < card);
        for (int other = 0; other < cards.size(); other++) {
            state(other == card || cards.get(other).person != card);
        }
        int old = cards.get(card).person;
        cards.get(card).person = person;
        legsFound.clear();
        return old;
    }

    public boolean lose(int card, boolean is) {
        index(isCard(card));
        boolean was = cards.get(card).isLost;
        cards.get(card).isLost = is;
        return was;
    }

    public int pay(int card, int coins) {
        index(isCard(card));
        argument(coins >= 1 && coins <= 999);
        return cards.get(card).purse += coins;
    }

    public int late(int line, int day, int minutes) {
        index(line >= 0 && line <= 5 && isDay(day));
        argument(minutes >= 0 && minutes <= 200);
        int old = lates[line][day];
        lates[line][day] = minutes;
        return old;
    }

    public int tap(int card, int stop, int line, boolean isIn, int day, int minute) {
        tapArguments(card, stop, line, day, minute);
        Tap tap = new Tap(card, stop, line, isIn, day, minute);
        if (cards.get(card).isLost) {
            denied++;
            return -2;
        }
        if (taps.contains(tap)) {
            doubled++;
            return -3;
        }
        state(taps.size() != 40);
        taps.add(tap);
        legsFound.clear();
        return taps.size();
    }

    public int close() {
        state(closed != 28);
        int all = 0;
        for (int person : persons()) {
            int due = weekCost(person, closed / 7, closed) - cards.get(person).charged[closed / 7];
            if (due > 0) {
                charge(person, closed / 7, due);
                all += due;
            }
        }
        closed++;
        return all;
    }

    public int settle(int person, int week) {
        index(isPerson(person) && week >= 0 && week <= 3);
        int last = -1;
        for (int day = week * 7; day < week * 7 + 7; day++) {
            last = day < closed ? day : last;
        }
        state(last >= 0);
        int due = weekCost(person, week, last) - cards.get(person).charged[week];
        charge(person, week, due);
        return due;
    }

    public int refund(int person, int line, int day) {
        index(isPerson(person) && line >= 0 && line <= 5 && isDay(day));
        state(lates[line][day] >= 30);
        state(asked.add(new Asked(person, line, day)));
        int coins = 0;
        for (Journey journey : journeys(person, day)) {
            if (journey.legs.stream().anyMatch(leg -> leg.line == line)) {
                coins += journey.fare / 2;
            }
        }
        cards.get(person).purse += coins;
        refunds += coins;
        return coins;
    }

    public int ofCard(int card, int what) {
        index(isCard(card));
        argument(what >= 0 && what <= 7);
        Card it = cards.get(card);
        if (what == 0) return it.purse;
        if (what == 1) return it.person;
        if (what == 2) return it.isLost ? 1 : 0;
        if (what == 3) return (int) taps.stream().filter(tap -> tap.card == card).count();
        return it.charged[what - 4];
    }

    public int ofDay(int person, int day, int what) {
        index(isPerson(person) && isDay(day));
        argument(what >= 0 && what <= 7);
        List<Journey> journeys = journeys(person, day);
        if (what == 0) return tapsOf(person, day).size();
        if (what == 1) return legs(person, day).size();
        if (what == 2) return journeys.size();
        if (what == 3) return (int) legs(person, day).stream().filter(leg -> leg.guess != 0).count();
        if (what == 4) return above(journeys, 0).stream().mapToInt(journey -> journey.fare).sum();
        if (what == 5) return dayCost(journeys, day);
        if (what == 6) return dayTicket(journeys, day);
        return dayCost(above(journeys, weekTicket(person, day / 7, day / 7 * 7 + 6)), day);
    }

    public int ofLeg(int person, int day, int k, int what) {
        index(isPerson(person) && isDay(day));
        List<Leg> legs = legs(person, day);
        index(k >= 0 && k < legs.size());
        argument(what >= 0 && what <= 6);
        Leg leg = legs.get(k);
        int journeyOf = 0;
        int behind = 0;
        for (Journey journey : journeys(person, day)) {
            behind += journey.legs.size();
            journeyOf += behind <= k ? 1 : 0;
        }
        return new int[] {leg.from, leg.to, leg.begin, leg.end, leg.line, leg.guess, journeyOf}[what];
    }

    public int ofJourney(int person, int day, int k, int what) {
        index(isPerson(person) && isDay(day));
        List<Journey> journeys = journeys(person, day);
        index(k >= 0 && k < journeys.size());
        argument(what >= 0 && what <= 3);
        Journey journey = journeys.get(k);
        return new int[] {journey.legs.size(), journey.zones, journey.top, journey.fare}[what];
    }

    public int ofWeek(int person, int week, int what) {
        index(isPerson(person) && week >= 0 && week <= 3);
        argument(what >= 0 && what <= 2);
        int last = week * 7 + 6;
        if (what == 0) return weekCost(person, week, last);
        if (what == 1) return weekTicket(person, week, last);
        return weekWith(person, week, last, 0);
    }

    public int share(int carrier, int person, int day) {
        index(carrier >= 0 && carrier <= 2 && isPerson(person) && isDay(day));
        List<Journey> journeys = journeys(person, day);
        if (journeys.isEmpty()) return 0;
        int[] weights = new int[3];
        for (Journey journey : journeys) {
            for (int c = 0; c < 3; c++) {
                int its = c;
                long legs = journey.legs.stream().filter(leg -> carriers[leg.line] == its).count();
                weights[c] += Math.floorDiv(journey.fare * (int) legs, journey.legs.size());
            }
        }
        int all = weights[0] + weights[1] + weights[2];
        int cost = dayCost(journeys, day);
        int[] shares = new int[3];
        int left = cost;
        for (int c = 0; c < 3; c++) {
            shares[c] = all == 0 ? 0 : Math.floorDiv(cost * weights[c], all);
            left -= shares[c];
        }
        shares[carriers[journeys.get(0).legs.get(0).line]] += left;
        return shares[carrier];
    }

    public int check(int card, int day, int minute) {
        index(isCard(card) && isDay(day));
        argument(minute >= 0 && minute <= 1439);
        if (cards.get(card).isLost) return 2;
        for (Leg leg : legs(cards.get(card).person, day)) {
            int until = leg.guess == 2 ? leg.begin + 120 : leg.end;
            if (leg.guess != 1 && minute >= leg.begin && minute <= until) return 1;
        }
        return 0;
    }

    public int many(int what) {
        argument(what >= 0 && what <= 8);
        int purses = cards.stream().mapToInt(card -> card.purse).sum();
        return new int[] {cards.size(), taps.size(), denied, doubled, closed, tariffs.size(), purses, chargedEver,
            refunds}[what];
    }

    public double meanFare(int day) {
        index(isDay(day));
        List<Journey> all = new ArrayList<>();
        for (int person : persons()) {
            all.addAll(journeys(person, day));
        }
        return all.isEmpty() ? 0 : all.stream().mapToDouble(journey -> journey.fare).sum() / all.size();
    }

    public int wouldCost(int card, int stop, int line, boolean isIn, int day, int minute) {
        tapArguments(card, stop, line, day, minute);
        int person = cards.get(card).person;
        int before = ofWeek(person, day / 7, 0);
        List<Tap> more = new ArrayList<>(taps);
        more.add(new Tap(card, stop, line, isIn, day, minute));
        return weekCostOf(more, person, day / 7) - before;
    }

    public int guess(int person, int day, int stop, boolean isBeginning) {
        index(isPerson(person) && isDay(day) && stop >= 0 && stop <= 9);
        return guessed(person, day, stop, isBeginning);
    }

    public int worth(int person, int week, int day) {
        index(isPerson(person) && week >= 0 && week <= 3);
        argument(day >= week * 7 && day < week * 7 + 7);
        int before = ofWeek(person, week, 0);
        List<Tap> less = new ArrayList<>(taps);
        less.removeAll(tapsOf(person, day));
        return before - weekCostOf(less, person, week);
    }

    /** What the week would cost, if there were those taps. */
    private int weekCostOf(List<Tap> others, int person, int week) {
        List<Tap> kept = taps;
        taps = others;
        legsFound.clear();
        int cost = ofWeek(person, week, 0);
        taps = kept;
        legsFound.clear();
        return cost;
    }

    public long digest() {
        List<Integer> row = new ArrayList<>();
        for (int what = 0; what < 9; what++) row.add(many(what));
        for (int card = 0; card < cards.size(); card++) {
            for (int what = 0; what < 8; what++) row.add(ofCard(card, what));
        }
        for (int person : persons()) {
            for (int day = 0; day < 28; day++) {
                for (int what = 0; what < 8; what++) row.add(ofDay(person, day, what));
                if (ofDay(person, day, 0) == 0) continue;
                for (int carrier = 0; carrier < 3; carrier++) row.add(share(carrier, person, day));
                for (int leg = 0; leg < ofDay(person, day, 1); leg++) {
                    for (int what = 0; what < 7; what++) row.add(ofLeg(person, day, leg, what));
                }
            }
            for (int week = 0; week < 4; week++) {
                for (int what = 0; what < 3; what++) row.add(ofWeek(person, week, what));
            }
            for (int stop = 0; stop < 10; stop++) row.add(guess(person, 27, stop, true));
        }
        long d = 4806;
        for (int v : row) d = d * 31 + v;
        return d;
    }

    private static void index(boolean is) {
        if (!is) throw new IndexOutOfBoundsException();
    }

    private static void argument(boolean is) {
        if (!is) throw new IllegalArgumentException();
    }

    private static void state(boolean is) {
        if (!is) throw new IllegalStateException();
    }

    private void tapArguments(int card, int stop, int line, int day, int minute) {
        index(isCard(card) && stop >= 0 && stop <= 9 && line >= 0 && line <= 5 && isDay(day));
        argument(minute >= 0 && minute <= 1439);
    }

    private boolean isCard(int card) {
        return card >= 0 && card < cards.size();
    }

    private boolean isPerson(int person) {
        return persons().contains(person);
    }

    private static boolean isDay(int day) {
        return day >= 0 && day <= 27;
    }

    private List<Integer> persons() {
        List<Integer> persons = new ArrayList<>();
        for (int number = 0; number < cards.size(); number++) {
            if (cards.get(number).person == number) persons.add(number);
        }
        return persons;
    }

    private void charge(int person, int week, int due) {
        cards.get(person).purse -= due;
        cards.get(person).charged[week] += due;
        chargedEver += due;
    }

    private List<Tap> tapsOf(int person, int day) {
        return taps.stream().filter(tap -> tap.day == day && cards.get(tap.card).person == person)
            .sorted(Comparator.comparingInt(Tap::minute)).toList();
    }

    /** The legs as the taps tell them; a side that is a guess bears the stop of the other side still. */
    private List<Leg> toldLegs(int person, int day) {
        List<Leg> found = legsFound.get(person * 28 + day);
        if (found == null) {
            found = findLegs(person, day);
            legsFound.put(person * 28 + day, found);
        }
        return found;
    }

    private List<Leg> findLegs(int person, int day) {
        List<Leg> legs = new ArrayList<>();
        Tap open = null;
        Tap lastOut = null;
        for (Tap tap : tapsOf(person, day)) {
            if (tap.isIn) {
                if (open != null && open.stop == tap.stop && tap.minute <= open.minute + 3) continue;
                if (open != null) legs.add(lone(open, 2));
                open = tap;
            } else if (open != null) {
                legs.add(new Leg(open.stop, tap.stop, open.minute, tap.minute, open.line, 0));
                open = null;
                lastOut = tap;
            } else {
                boolean isPassedOver = lastOut != null && lastOut.stop == tap.stop && tap.minute <= lastOut.minute + 3;
                if (isPassedOver) continue;
                legs.add(lone(tap, 1));
                lastOut = tap;
            }
        }
        if (open != null) legs.add(lone(open, 2));
        return legs;
    }

    private static Leg lone(Tap tap, int guess) {
        return new Leg(tap.stop, tap.stop, tap.minute, tap.minute, tap.line, guess);
    }

    private List<Leg> legs(int person, int day) {
        List<Leg> legs = new ArrayList<>();
        for (Leg leg : toldLegs(person, day)) {
            int from = leg.guess == 1 ? guessed(person, day, leg.to, false) : leg.from;
            int to = leg.guess == 2 ? guessed(person, day, leg.from, true) : leg.to;
            legs.add(new Leg(from, to, leg.begin, leg.end, leg.line, leg.guess));
        }
        return legs;
    }

    private int guessed(int person, int day, int stop, boolean isBeginning) {
        int[] times = new int[10];
        for (int earlier = 0; earlier < day; earlier++) {
            for (Leg leg : toldLegs(person, earlier)) {
                if (leg.guess != 0) continue;
                if (isBeginning && leg.from == stop) times[leg.to]++;
                if (!isBeginning && leg.to == stop) times[leg.from]++;
            }
        }
        int best = 9;
        for (int other = 9; other >= 0; other--) {
            best = times[other] >= times[best] ? other : best;
        }
        return times[best] == 0 ? stop : best;
    }

    private List<Journey> journeys(int person, int day) {
        List<Journey> journeys = new ArrayList<>();
        Leg ahead = null;
        for (Leg leg : legs(person, day)) {
            if (ahead == null || leg.begin > ahead.end + 20) journeys.add(new Journey());
            journeys.get(journeys.size() - 1).legs.add(leg);
            ahead = leg;
        }
        Tariff tariff = tariffOf(day);
        for (Journey journey : journeys) {
            int least = 4;
            for (Leg leg : journey.legs) {
                least = Math.min(least, Math.min(zones[leg.from], zones[leg.to]));
                journey.top = Math.max(journey.top, Math.max(zones[leg.from], zones[leg.to]));
            }
            journey.zones = journey.top - least + 1;
            journey.fare = tariff.base + (journey.zones - 1) * tariff.step;
        }
        return journeys;
    }

    private Tariff tariffOf(int day) {
        Tariff last = null;
        for (Tariff tariff : tariffs) {
            last = tariff.day <= day ? tariff : last;
        }
        return last;
    }

    private static List<Journey> above(List<Journey> journeys, int z) {
        return journeys.stream().filter(journey -> journey.top > z).toList();
    }

    private int dayWith(List<Journey> journeys, int day, int z) {
        int fares = above(journeys, z).stream().mapToInt(journey -> journey.fare).sum();
        Tariff tariff = tariffOf(day);
        return z == 0 ? fares : fares + tariff.ticket + (z - 1) * 2 * tariff.step;
    }

    private int dayTicket(List<Journey> journeys, int day) {
        int best = 0;
        for (int z = 1; z <= 4; z++) {
            best = dayWith(journeys, day, z) < dayWith(journeys, day, best) ? z : best;
        }
        return best;
    }

    private int dayCost(List<Journey> journeys, int day) {
        if (journeys.isEmpty()) return 0;
        return dayWith(journeys, day, dayTicket(journeys, day));
    }

    private int weekWith(int person, int week, int last, int z) {
        Tariff tariff = tariffOf(week * 7);
        int sum = z == 0 ? 0 : tariff.weekly + (z - 1) * 8 * tariff.step;
        for (int day = week * 7; day <= last; day++) {
            sum += dayCost(above(journeys(person, day), z), day);
        }
        return sum;
    }

    private int weekTicket(int person, int week, int last) {
        int best = 0;
        for (int z = 1; z <= 4; z++) {
            best = weekWith(person, week, last, z) < weekWith(person, week, last, best) ? z : best;
        }
        return best;
    }

    private int weekCost(int person, int week, int last) {
        return weekWith(person, week, last, weekTicket(person, week, last));
    }
}
