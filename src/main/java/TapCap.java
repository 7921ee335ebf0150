/**
 * One card for every way of a region: taps become legs and journeys, and each day and week costs
 * a person the least that the tickets allow. What each call answers stands in the document.
 */
public final class TapCap {
    private static final int STOPS = 10;
    private static final int LINES = 6;
    private static final int CARRIERS = 3;
    private static final int ZONES = 4;
    private static final int DAYS = 28;
    private static final int WEEKS = 4;
    private static final int WEEK_DAYS = 7;
    private static final int MINUTES = 1440;
    private static final int MOST_CARDS = 4;
    private static final int MOST_TAPS = 40;
    private static final int MOST_TARIFFS = 6;
    private static final int MOST_LATE = 200;
    private static final int LATE_ENOUGH = 30;
    private static final int MOST_COINS = 999;

    // One place more than can be kept: wouldCost tries its tap there.
    private static final int TAP_PLACES = MOST_TAPS + 1;
    // The choices of a ticket: none (0), or one for the zones 1 to z.
    private static final int CHOICES = ZONES + 1;

    private static final int DENIED = -2;
    private static final int DOUBLED = -3;
    private static final int REPEAT_MINUTES = 3;
    private static final int CHANGE_MINUTES = 20;
    private static final int CHECK_MINUTES = 120;
    private static final int NO_DAY = -1;

    private static final int NO_GUESS = 0;
    private static final int BEGINNING_GUESSED = 1;
    private static final int END_GUESSED = 2;

    private static final long DIGEST_START = 4806;
    private static final int DIGEST_FACTOR = 31;

    private final Region region;
    private final Tariffs tariffs;
    private final Cards cards;
    private final Taps taps;
    // What the taps of one person come to: made anew by each call that asks for it.
    private final Legs legs;
    private final Journeys journeys;
    private final Costs costs;
    private int closedDays;
    private int refunded;

    public TapCap() {
        region = new Region();
        tariffs = new Tariffs();
        cards = new Cards();
        taps = new Taps();
        legs = new Legs();
        journeys = new Journeys();
        costs = new Costs();
        closedDays = 0;
        refunded = 0;
    }

    // ---- what is told

    public int zone(int stop, int zone) throws IndexOutOfBoundsException, IllegalArgumentException {
        needNumber(stop, STOPS);
        needRange(zone, 1, ZONES);
        int before = region.zoneOf.at(stop);
        region.zoneOf.put(stop, zone);
        return before;
    }

    public int carrier(int line, int carrier) throws IndexOutOfBoundsException {
        needNumber(line, LINES);
        needNumber(carrier, CARRIERS);
        int before = region.carrierOf.at(line);
        region.carrierOf.put(line, carrier);
        return before;
    }

    public int tariff(int day, int base, int step, int ticket, int weekly)
            throws IllegalArgumentException, IllegalStateException {
        needRange(day, 0, DAYS - 1);
        needRange(base, 1, 9);
        needRange(step, 0, 5);
        needRange(ticket, 1, 50);
        needRange(weekly, 1, 200);
        if (tariffs.count >= MOST_TARIFFS || day < closedDays) {
            throw new IllegalStateException("no more tariffs, or the day is closed");
        }
        tariffs.add(day, base, step, ticket, weekly);
        return tariffs.count;
    }

    public int card() throws IllegalStateException {
        if (cards.count >= MOST_CARDS) {
            throw new IllegalStateException("no more cards");
        }
        return cards.give();
    }

    public int tie(int card, int person)
            throws IndexOutOfBoundsException, IllegalArgumentException, IllegalStateException {
        needCard(card);
        needPerson(person);
        if (person >= card) {
            throw new IllegalArgumentException("a card is tied to a smaller number");
        }
        if (cards.hasOthers(card)) {
            throw new IllegalStateException("another card is of this one's person");
        }
        int before = cards.personOf.at(card);
        cards.personOf.put(card, person);
        return before;
    }

    public boolean lose(int card, boolean is) throws IndexOutOfBoundsException {
        needCard(card);
        boolean was = cards.isLost(card);
        cards.lost.put(card, is ? 1 : 0);
        return was;
    }

    public int pay(int card, int coins) throws IndexOutOfBoundsException, IllegalArgumentException {
        needCard(card);
        needRange(coins, 1, MOST_COINS);
        cards.purse.add(card, coins);
        return cards.purse.at(card);
    }

    public int late(int line, int day, int minutes) throws IndexOutOfBoundsException, IllegalArgumentException {
        needNumber(line, LINES);
        needNumber(day, DAYS);
        needRange(minutes, 0, MOST_LATE);
        int place = line * DAYS + day;
        int before = region.lateBy.at(place);
        region.lateBy.put(place, minutes);
        return before;
    }

    // ---- what is done

    public int tap(int card, int stop, int line, boolean isIn, int day, int minute)
            throws IndexOutOfBoundsException, IllegalArgumentException, IllegalStateException {
        needTap(card, stop, line, day, minute);
        if (cards.isLost(card)) {
            taps.denied++;
            return DENIED;
        }
        // Behind the taps that are kept it counts for nothing yet, so that a refusal changes nothing.
        taps.write(taps.count, card, stop, line, isIn, day, minute);
        if (taps.isRepeated(taps.count)) {
            taps.doubled++;
            return DOUBLED;
        }
        if (taps.count >= MOST_TAPS) {
            throw new IllegalStateException("no more taps");
        }
        taps.count++;
        return taps.count;
    }

    public int close() throws IllegalStateException {
        if (closedDays >= DAYS) {
            throw new IllegalStateException("all days are closed");
        }
        int all = 0;
        for (int person = 0; person < cards.count; person++) {
            if (cards.isPerson(person)) {
                int due = dueUpTo(person, closedDays);
                if (due > 0) {
                    cards.charge(person, closedDays / WEEK_DAYS, due);
                    all += due;
                }
            }
        }
        closedDays++;
        return all;
    }

    public int settle(int person, int week) throws IndexOutOfBoundsException, IllegalStateException {
        needPerson(person);
        needNumber(week, WEEKS);
        int first = week * WEEK_DAYS;
        if (closedDays <= first) {
            throw new IllegalStateException("no day of the week is closed");
        }
        int due = dueUpTo(person, Math.min(closedDays, first + WEEK_DAYS) - 1);
        cards.charge(person, week, due);
        return due;
    }

    public int refund(int person, int line, int day) throws IndexOutOfBoundsException, IllegalStateException {
        needPerson(person);
        needNumber(line, LINES);
        needNumber(day, DAYS);
        int place = line * DAYS + day;
        int asked = person * LINES * DAYS + place;
        if (region.lateBy.at(place) < LATE_ENOUGH || cards.asked.at(asked) != 0) {
            throw new IllegalStateException("not late enough, or asked for before");
        }
        cards.asked.put(asked, 1);
        study(person, taps.count, NO_DAY);
        int coins = halfFares(line, day);
        cards.purse.add(person, coins);
        refunded += coins;
        return coins;
    }

    // ---- what one asks

    public int ofCard(int card, int what) throws IndexOutOfBoundsException, IllegalArgumentException {
        needCard(card);
        needRange(what, 0, 7);
        return cardAnswer(card, what);
    }

    public int ofDay(int person, int day, int what) throws IndexOutOfBoundsException, IllegalArgumentException {
        needPerson(person);
        needNumber(day, DAYS);
        needRange(what, 0, 7);
        study(person, taps.count, NO_DAY);
        return dayAnswer(day, what);
    }

    public int ofLeg(int person, int day, int k, int what)
            throws IndexOutOfBoundsException, IllegalArgumentException {
        needPerson(person);
        needNumber(day, DAYS);
        study(person, taps.count, NO_DAY);
        needNumber(k, legs.countOn.at(day));
        needRange(what, 0, 6);
        return legAnswer(legs.firstOn.at(day) + k, what);
    }

    public int ofJourney(int person, int day, int k, int what)
            throws IndexOutOfBoundsException, IllegalArgumentException {
        needPerson(person);
        needNumber(day, DAYS);
        study(person, taps.count, NO_DAY);
        needNumber(k, journeys.countOn.at(day));
        needRange(what, 0, 3);
        return journeyAnswer(journeys.firstOn.at(day) + k, what);
    }

    public int ofWeek(int person, int week, int what) throws IndexOutOfBoundsException, IllegalArgumentException {
        needPerson(person);
        needNumber(week, WEEKS);
        needRange(what, 0, 2);
        study(person, taps.count, NO_DAY);
        return weekAnswer(week, what);
    }

    public int share(int carrier, int person, int day) throws IndexOutOfBoundsException {
        needNumber(carrier, CARRIERS);
        needPerson(person);
        needNumber(day, DAYS);
        study(person, taps.count, NO_DAY);
        return shareAnswer(carrier, day);
    }

    public int check(int card, int day, int minute) throws IndexOutOfBoundsException, IllegalArgumentException {
        needCard(card);
        needNumber(day, DAYS);
        needRange(minute, 0, MINUTES - 1);
        if (cards.isLost(card)) {
            return 2;
        }
        study(cards.personOf.at(card), taps.count, NO_DAY);
        return legs.isUnderWay(day, minute) ? 1 : 0;
    }

    public int many(int what) throws IllegalArgumentException {
        needRange(what, 0, 8);
        return manyAnswer(what);
    }

    public double meanFare(int day) throws IndexOutOfBoundsException {
        needNumber(day, DAYS);
        int fares = 0;
        int count = 0;
        for (int person = 0; person < cards.count; person++) {
            if (cards.isPerson(person)) {
                study(person, taps.count, NO_DAY);
                fares += journeys.fares(day, 0);
                count += journeys.countOn.at(day);
            }
        }
        return count > 0 ? (double) fares / count : 0.0;
    }

    // ---- what would be (nothing is changed)

    public int wouldCost(int card, int stop, int line, boolean isIn, int day, int minute)
            throws IndexOutOfBoundsException, IllegalArgumentException {
        needTap(card, stop, line, day, minute);
        int person = cards.personOf.at(card);
        int week = day / WEEK_DAYS;
        int now = costOfWeek(person, week, taps.count, NO_DAY);
        taps.write(taps.count, card, stop, line, isIn, day, minute);
        return costOfWeek(person, week, taps.count + 1, NO_DAY) - now;
    }

    public int guess(int person, int day, int stop, boolean isBeginning) throws IndexOutOfBoundsException {
        needPerson(person);
        needNumber(day, DAYS);
        needNumber(stop, STOPS);
        study(person, taps.count, NO_DAY);
        return legs.likeliest(day, stop, isBeginning);
    }

    public int worth(int person, int week, int day) throws IndexOutOfBoundsException, IllegalArgumentException {
        needPerson(person);
        needNumber(week, WEEKS);
        needRange(day, week * WEEK_DAYS, week * WEEK_DAYS + WEEK_DAYS - 1);
        return costOfWeek(person, week, taps.count, NO_DAY) - costOfWeek(person, week, taps.count, day);
    }

    public long digest() {
        long sum = DIGEST_START;
        for (int what = 0; what <= 8; what++) {
            sum = sum * DIGEST_FACTOR + manyAnswer(what);
        }
        for (int number = 0; number < cards.count; number++) {
            for (int what = 0; what <= 7; what++) {
                sum = sum * DIGEST_FACTOR + cardAnswer(number, what);
            }
        }
        for (int person = 0; person < cards.count; person++) {
            if (cards.isPerson(person)) {
                sum = digestPerson(sum, person);
            }
        }
        return sum;
    }

    // ---- what the calls need

    private static void needNumber(int number, int count) {
        if (number < 0 || number >= count) {
            throw new IndexOutOfBoundsException("no such number");
        }
    }

    private static void needRange(int value, int least, int most) {
        if (value < least || value > most) {
            throw new IllegalArgumentException("not within its bounds");
        }
    }

    private void needCard(int card) {
        needNumber(card, cards.count);
    }

    private void needPerson(int person) {
        if (!cards.isPerson(person)) {
            throw new IndexOutOfBoundsException("no such person");
        }
    }

    private void needTap(int card, int stop, int line, int day, int minute) {
        needCard(card);
        needNumber(stop, STOPS);
        needNumber(line, LINES);
        needNumber(day, DAYS);
        needRange(minute, 0, MINUTES - 1);
    }

    // ---- what the calls answer

    private void study(int person, int tapCount, int withoutDay) {
        legs.read(taps, tapCount, cards, person, withoutDay);
        journeys.read(legs, region, tariffs);
        costs.read(journeys, tariffs);
    }

    private int costOfWeek(int person, int week, int tapCount, int withoutDay) {
        study(person, tapCount, withoutDay);
        return costs.ofWholeWeek(week);
    }

    private int dueUpTo(int person, int lastDay) {
        study(person, taps.count, NO_DAY);
        int week = lastDay / WEEK_DAYS;
        return costs.leastUpTo(week, lastDay) - cards.charged.at(person * WEEKS + week);
    }

    private int halfFares(int line, int day) {
        int sum = 0;
        int first = journeys.firstOn.at(day);
        for (int k = 0; k < journeys.countOn.at(day); k++) {
            if (journeys.legsOnLine(first + k, legs, line) > 0) {
                sum += journeys.fare.at(first + k) / 2;
            }
        }
        return sum;
    }

    private int cardAnswer(int number, int what) {
        switch (what) {
            case 0: return cards.purse.at(number);
            case 1: return cards.personOf.at(number);
            case 2: return cards.lost.at(number);
            case 3: return taps.countOf(number);
            default: return cards.charged.at(number * WEEKS + what - 4);
        }
    }

    private int dayAnswer(int day, int what) {
        switch (what) {
            case 0: return legs.tapsOn.at(day);
            case 1: return legs.countOn.at(day);
            case 2: return journeys.countOn.at(day);
            case 3: return legs.guessesOn(day);
            case 4: return journeys.fares(day, 0);
            case 5: return costs.byItself(day);
            case 6: return costs.dayChoice.at(day);
            default: return costs.withinWeek(day);
        }
    }

    private int legAnswer(int leg, int what) {
        switch (what) {
            case 0: return legs.from.at(leg);
            case 1: return legs.to.at(leg);
            case 2: return legs.begin.at(leg);
            case 3: return legs.end.at(leg);
            case 4: return legs.lineOf.at(leg);
            case 5: return legs.guessed.at(leg);
            default: return journeys.indexOfLeg.at(leg);
        }
    }

    private int journeyAnswer(int journey, int what) {
        switch (what) {
            case 0: return journeys.legCount.at(journey);
            case 1: return journeys.zonesTouched(journey);
            case 2: return journeys.top.at(journey);
            default: return journeys.fare.at(journey);
        }
    }

    private int weekAnswer(int week, int what) {
        switch (what) {
            case 0: return costs.ofWholeWeek(week);
            case 1: return costs.weekChoice.at(week);
            default: return costs.ofDaysByThemselves(week);
        }
    }

    private int manyAnswer(int what) {
        switch (what) {
            case 0: return cards.count;
            case 1: return taps.count;
            case 2: return taps.denied;
            case 3: return taps.doubled;
            case 4: return closedDays;
            case 5: return tariffs.count;
            case 6: return cards.purse.sum();
            case 7: return cards.charged.sum();
            default: return refunded;
        }
    }

    private int shareAnswer(int carrier, int day) {
        if (legs.countOn.at(day) == 0) {
            return 0;
        }
        int cost = costs.byItself(day);
        int weights = 0;
        for (int c = 0; c < CARRIERS; c++) {
            weights += weightOf(c, day);
        }
        if (carrier != region.carrierOf.at(legs.lineOf.at(legs.firstOn.at(day)))) {
            return partOf(cost, weightOf(carrier, day), weights);
        }
        // The first leg's carrier also gets what the rounding leaves: all but the others' parts.
        int left = cost;
        for (int c = 0; c < CARRIERS; c++) {
            if (c != carrier) {
                left -= partOf(cost, weightOf(c, day), weights);
            }
        }
        return left;
    }

    private static int partOf(int cost, int weight, int weights) {
        return weights > 0 ? cost * weight / weights : 0;
    }

    private int weightOf(int carrier, int day) {
        int weight = 0;
        int first = journeys.firstOn.at(day);
        for (int k = 0; k < journeys.countOn.at(day); k++) {
            int journey = first + k;
            int of = journeys.legsOfCarrier(journey, legs, region, carrier);
            weight += partOf(journeys.fare.at(journey), of, journeys.legCount.at(journey));
        }
        return weight;
    }

    private long digestPerson(long start, int person) {
        study(person, taps.count, NO_DAY);
        long sum = start;
        for (int day = 0; day < DAYS; day++) {
            sum = digestDay(sum, day);
        }
        for (int week = 0; week < WEEKS; week++) {
            for (int what = 0; what <= 2; what++) {
                sum = sum * DIGEST_FACTOR + weekAnswer(week, what);
            }
        }
        for (int stop = 0; stop < STOPS; stop++) {
            sum = sum * DIGEST_FACTOR + legs.likeliest(DAYS - 1, stop, true);
        }
        return sum;
    }

    private long digestDay(long start, int day) {
        long sum = start;
        for (int what = 0; what <= 7; what++) {
            sum = sum * DIGEST_FACTOR + dayAnswer(day, what);
        }
        if (legs.tapsOn.at(day) == 0) {
            return sum;
        }
        for (int carrier = 0; carrier < CARRIERS; carrier++) {
            sum = sum * DIGEST_FACTOR + shareAnswer(carrier, day);
        }
        int first = legs.firstOn.at(day);
        for (int k = 0; k < legs.countOn.at(day); k++) {
            for (int what = 0; what <= 6; what++) {
                sum = sum * DIGEST_FACTOR + legAnswer(first + k, what);
            }
        }
        return sum;
    }

    /** Whole numbers of a fixed count; a place outside reads 0 and takes nothing, so no index can fail. */
    private static final class Row {
        private final int[] cells;

        Row(int length) {
            cells = new int[length > 0 ? length : 0];
        }

        int at(int place) {
            return place >= 0 && place < cells.length ? cells[place] : 0;
        }

        void put(int place, int value) {
            if (place >= 0 && place < cells.length) {
                cells[place] = value;
            }
        }

        void add(int place, int value) {
            if (place >= 0 && place < cells.length) {
                cells[place] += value;
            }
        }

        void fill(int value) {
            for (int i = 0; i < cells.length; i++) {
                cells[i] = value;
            }
        }

        int sum() {
            int all = 0;
            for (int i = 0; i < cells.length; i++) {
                all += cells[i];
            }
            return all;
        }
    }

    /** What is told of stops and lines. */
    private static final class Region {
        final Row zoneOf = new Row(STOPS);
        final Row carrierOf = new Row(LINES);
        final Row lateBy = new Row(LINES * DAYS);

        Region() {
            zoneOf.fill(1);
        }
    }

    /** The prices, in the order in which they were told. */
    private static final class Tariffs {
        private final Row since = new Row(MOST_TARIFFS);
        private final Row base = new Row(MOST_TARIFFS);
        private final Row step = new Row(MOST_TARIFFS);
        private final Row ticket = new Row(MOST_TARIFFS);
        private final Row weekly = new Row(MOST_TARIFFS);
        int count = 0;

        Tariffs() {
            add(0, 2, 1, 5, 20);
        }

        void add(int day, int itsBase, int itsStep, int itsTicket, int itsWeekly) {
            since.put(count, day);
            base.put(count, itsBase);
            step.put(count, itsStep);
            ticket.put(count, itsTicket);
            weekly.put(count, itsWeekly);
            count++;
        }

        /** The one told last counts, also if an earlier one is from a later day. */
        int indexFor(int day) {
            for (int i = count - 1; i > 0; i--) {
                if (since.at(i) <= day) {
                    return i;
                }
            }
            return 0;
        }

        int fare(int index, int zones) {
            return base.at(index) + (zones - 1) * step.at(index);
        }

        int dayTicket(int index, int z) {
            return ticket.at(index) + (z - 1) * 2 * step.at(index);
        }

        int weekTicket(int index, int z) {
            return weekly.at(index) + (z - 1) * 8 * step.at(index);
        }
    }

    /** The cards, and the money that stays with their numbers. */
    private static final class Cards {
        final Row purse = new Row(MOST_CARDS);
        final Row personOf = new Row(MOST_CARDS);
        final Row lost = new Row(MOST_CARDS);
        final Row charged = new Row(MOST_CARDS * WEEKS);
        final Row asked = new Row(MOST_CARDS * LINES * DAYS);
        int count = 0;

        int give() {
            int number = count;
            personOf.put(number, number);
            count++;
            return number;
        }

        boolean isPerson(int number) {
            return number >= 0 && number < count && personOf.at(number) == number;
        }

        boolean isLost(int card) {
            return lost.at(card) != 0;
        }

        boolean hasOthers(int person) {
            for (int card = 0; card < count; card++) {
                if (card != person && personOf.at(card) == person) {
                    return true;
                }
            }
            return false;
        }

        void charge(int person, int week, int coins) {
            purse.add(person, -coins);
            charged.add(person * WEEKS + week, coins);
        }
    }

    /** The taps that are kept, as they came; what stands behind them is only being looked at. */
    private static final class Taps {
        final Row card = new Row(TAP_PLACES);
        final Row stop = new Row(TAP_PLACES);
        final Row line = new Row(TAP_PLACES);
        final Row in = new Row(TAP_PLACES);
        final Row day = new Row(TAP_PLACES);
        final Row minute = new Row(TAP_PLACES);
        int count = 0;
        int denied = 0;
        int doubled = 0;

        void write(int place, int itsCard, int itsStop, int itsLine, boolean isIn, int itsDay, int itsMinute) {
            card.put(place, itsCard);
            stop.put(place, itsStop);
            line.put(place, itsLine);
            in.put(place, isIn ? 1 : 0);
            day.put(place, itsDay);
            minute.put(place, itsMinute);
        }

        boolean isRepeated(int place) {
            for (int i = 0; i < count; i++) {
                if (isSame(i, place)) {
                    return true;
                }
            }
            return false;
        }

        private boolean isSame(int a, int b) {
            return card.at(a) == card.at(b) && stop.at(a) == stop.at(b) && line.at(a) == line.at(b)
                    && in.at(a) == in.at(b) && day.at(a) == day.at(b) && minute.at(a) == minute.at(b);
        }

        int countOf(int number) {
            int sum = 0;
            for (int i = 0; i < count; i++) {
                sum += card.at(i) == number ? 1 : 0;
            }
            return sum;
        }
    }

    /** All legs of one person, day by day; a tap makes one leg at the most. */
    private static final class Legs {
        final Row dayOf = new Row(TAP_PLACES);
        final Row from = new Row(TAP_PLACES);
        final Row to = new Row(TAP_PLACES);
        final Row begin = new Row(TAP_PLACES);
        final Row end = new Row(TAP_PLACES);
        final Row lineOf = new Row(TAP_PLACES);
        final Row guessed = new Row(TAP_PLACES);
        final Row firstOn = new Row(DAYS);
        final Row countOn = new Row(DAYS);
        final Row tapsOn = new Row(DAYS);
        int count = 0;
        private final Row order = new Row(TAP_PLACES);
        private final Row moments = new Row(TAP_PLACES);
        private final Row votes = new Row(STOPS);
        private int ordered = 0;

        void read(Taps taps, int tapCount, Cards cards, int person, int withoutDay) {
            count = 0;
            ordered = 0;
            firstOn.fill(0);
            countOn.fill(0);
            tapsOn.fill(0);
            for (int tap = 0; tap < tapCount; tap++) {
                boolean isThere = taps.day.at(tap) != withoutDay;
                if (isThere && cards.personOf.at(taps.card.at(tap)) == person) {
                    insert(tap, taps.day.at(tap), taps.minute.at(tap));
                }
            }
            for (int i = 0; i < ordered; i++) {
                int tap = order.at(i);
                if (taps.in.at(tap) != 0) {
                    takeIn(taps, tap);
                } else {
                    takeOut(taps, tap);
                }
            }
            fillGuesses();
        }

        /** Only later moments move back, so that taps of the same minute stay as they came. */
        private void insert(int tap, int day, int minute) {
            int moment = day * MINUTES + minute;
            int place = ordered;
            while (place > 0 && moments.at(place - 1) > moment) {
                moments.put(place, moments.at(place - 1));
                order.put(place, order.at(place - 1));
                place--;
            }
            moments.put(place, moment);
            order.put(place, tap);
            ordered++;
            tapsOn.add(day, 1);
        }

        private void takeIn(Taps taps, int tap) {
            int day = taps.day.at(tap);
            int stop = taps.stop.at(tap);
            int minute = taps.minute.at(tap);
            int last = count - 1;
            boolean isRepeat = isOpenOn(day) && from.at(last) == stop && minute - begin.at(last) <= REPEAT_MINUTES;
            if (!isRepeat) {
                add(day, stop, minute, taps.line.at(tap), END_GUESSED);
            }
        }

        private void takeOut(Taps taps, int tap) {
            int day = taps.day.at(tap);
            int stop = taps.stop.at(tap);
            int minute = taps.minute.at(tap);
            int last = count - 1;
            if (isOpenOn(day)) {
                to.put(last, stop);
                end.put(last, minute);
                guessed.put(last, NO_GUESS);
                return;
            }
            // With none open, the day's last leg was ended by an out, or is one by itself.
            boolean isRepeat = countOn.at(day) > 0 && to.at(last) == stop && minute - end.at(last) <= REPEAT_MINUTES;
            if (!isRepeat) {
                add(day, stop, minute, taps.line.at(tap), BEGINNING_GUESSED);
            }
        }

        /** A leg counts as ended by a guess until its out comes: so the last one with such an end is open. */
        private boolean isOpenOn(int day) {
            return countOn.at(day) > 0 && guessed.at(count - 1) == END_GUESSED;
        }

        private void add(int day, int stop, int minute, int line, int itsGuess) {
            dayOf.put(count, day);
            from.put(count, stop);
            to.put(count, stop);
            begin.put(count, minute);
            end.put(count, minute);
            lineOf.put(count, line);
            guessed.put(count, itsGuess);
            if (countOn.at(day) == 0) {
                firstOn.put(day, count);
            }
            countOn.add(day, 1);
            count++;
        }

        private void fillGuesses() {
            for (int leg = 0; leg < count; leg++) {
                if (guessed.at(leg) == END_GUESSED) {
                    to.put(leg, likeliest(dayOf.at(leg), from.at(leg), true));
                } else if (guessed.at(leg) == BEGINNING_GUESSED) {
                    from.put(leg, likeliest(dayOf.at(leg), to.at(leg), false));
                }
            }
        }

        /** The guess of the other side of a leg on that day: legs of earlier days vote for their other stop. */
        int likeliest(int day, int stop, boolean isBeginning) {
            votes.fill(0);
            for (int leg = 0; leg < count; leg++) {
                int known = isBeginning ? from.at(leg) : to.at(leg);
                if (dayOf.at(leg) < day && guessed.at(leg) == NO_GUESS && known == stop) {
                    votes.add(isBeginning ? to.at(leg) : from.at(leg), 1);
                }
            }
            int best = stop;
            int most = 0;
            for (int other = 0; other < STOPS; other++) {
                if (votes.at(other) > most) {
                    most = votes.at(other);
                    best = other;
                }
            }
            return best;
        }

        int guessesOn(int day) {
            int sum = 0;
            int first = firstOn.at(day);
            for (int k = 0; k < countOn.at(day); k++) {
                sum += guessed.at(first + k) == NO_GUESS ? 0 : 1;
            }
            return sum;
        }

        boolean isUnderWay(int day, int minute) {
            int first = firstOn.at(day);
            for (int k = 0; k < countOn.at(day); k++) {
                int leg = first + k;
                boolean isOpen = guessed.at(leg) == END_GUESSED;
                int until = isOpen ? begin.at(leg) + CHECK_MINUTES : end.at(leg);
                boolean isKnown = guessed.at(leg) != BEGINNING_GUESSED;
                if (isKnown && begin.at(leg) <= minute && until >= minute) {
                    return true;
                }
            }
            return false;
        }
    }

    /** The journeys that the legs of one person make, day by day. */
    private static final class Journeys {
        final Row legCount = new Row(TAP_PLACES);
        final Row top = new Row(TAP_PLACES);
        final Row fare = new Row(TAP_PLACES);
        final Row indexOfLeg = new Row(TAP_PLACES);
        final Row firstOn = new Row(DAYS);
        final Row countOn = new Row(DAYS);
        private final Row dayOf = new Row(TAP_PLACES);
        private final Row firstLeg = new Row(TAP_PLACES);
        private final Row bottom = new Row(TAP_PLACES);
        private int count = 0;

        void read(Legs legs, Region region, Tariffs tariffs) {
            count = 0;
            firstOn.fill(0);
            countOn.fill(0);
            for (int leg = 0; leg < legs.count; leg++) {
                int day = legs.dayOf.at(leg);
                boolean isNext = countOn.at(day) > 0
                        && legs.begin.at(leg) - legs.end.at(leg - 1) <= CHANGE_MINUTES;
                if (!isNext) {
                    open(day, leg);
                }
                indexOfLeg.put(leg, countOn.at(day) - 1);
                legCount.add(count - 1, 1);
                touch(region.zoneOf.at(legs.from.at(leg)));
                touch(region.zoneOf.at(legs.to.at(leg)));
            }
            for (int journey = 0; journey < count; journey++) {
                int tariff = tariffs.indexFor(dayOf.at(journey));
                fare.put(journey, tariffs.fare(tariff, zonesTouched(journey)));
            }
        }

        private void open(int day, int leg) {
            dayOf.put(count, day);
            firstLeg.put(count, leg);
            legCount.put(count, 0);
            top.put(count, 1);
            bottom.put(count, ZONES);
            if (countOn.at(day) == 0) {
                firstOn.put(day, count);
            }
            countOn.add(day, 1);
            count++;
        }

        private void touch(int zone) {
            int last = count - 1;
            top.put(last, Math.max(top.at(last), zone));
            bottom.put(last, Math.min(bottom.at(last), zone));
        }

        int zonesTouched(int journey) {
            return top.at(journey) - bottom.at(journey) + 1;
        }

        /** The fares of the journeys of a day that no ticket for the zones 1 to z is good for. */
        int fares(int day, int z) {
            int sum = 0;
            int first = firstOn.at(day);
            for (int k = 0; k < countOn.at(day); k++) {
                sum += top.at(first + k) > z ? fare.at(first + k) : 0;
            }
            return sum;
        }

        int legsOnLine(int journey, Legs legs, int line) {
            int sum = 0;
            int first = firstLeg.at(journey);
            for (int k = 0; k < legCount.at(journey); k++) {
                sum += legs.lineOf.at(first + k) == line ? 1 : 0;
            }
            return sum;
        }

        int legsOfCarrier(int journey, Legs legs, Region region, int carrier) {
            int sum = 0;
            int first = firstLeg.at(journey);
            for (int k = 0; k < legCount.at(journey); k++) {
                sum += region.carrierOf.at(legs.lineOf.at(first + k)) == carrier ? 1 : 0;
            }
            return sum;
        }
    }

    /** What the days and weeks of one person cost at the least. */
    private static final class Costs {
        final Row dayChoice = new Row(DAYS);
        final Row weekChoice = new Row(WEEKS);
        // For each day and each choice of a week ticket what the day costs beside it.
        private final Row beside = new Row(DAYS * CHOICES);
        private final Row weekTickets = new Row(WEEKS * CHOICES);

        void read(Journeys journeys, Tariffs tariffs) {
            dayChoice.fill(0);
            beside.fill(0);
            for (int day = 0; day < DAYS; day++) {
                if (journeys.countOn.at(day) > 0) {
                    readDay(day, journeys, tariffs);
                }
            }
            for (int week = 0; week < WEEKS; week++) {
                int tariff = tariffs.indexFor(week * WEEK_DAYS);
                for (int z = 1; z <= ZONES; z++) {
                    weekTickets.put(week * CHOICES + z, tariffs.weekTicket(tariff, z));
                }
                weekChoice.put(week, choiceUpTo(week, lastDayOf(week)));
            }
        }

        private void readDay(int day, Journeys journeys, Tariffs tariffs) {
            int tariff = tariffs.indexFor(day);
            for (int covered = 0; covered <= ZONES; covered++) {
                int least = journeys.fares(day, covered);
                int choice = 0;
                for (int z = 1; z <= ZONES; z++) {
                    int cost = tariffs.dayTicket(tariff, z) + journeys.fares(day, Math.max(z, covered));
                    if (cost < least) {
                        least = cost;
                        choice = z;
                    }
                }
                beside.put(day * CHOICES + covered, least);
                if (covered == 0) {
                    dayChoice.put(day, choice);
                }
            }
        }

        int byItself(int day) {
            return beside.at(day * CHOICES);
        }

        int withinWeek(int day) {
            return beside.at(day * CHOICES + weekChoice.at(day / WEEK_DAYS));
        }

        int ofWholeWeek(int week) {
            return upTo(week, lastDayOf(week), weekChoice.at(week));
        }

        int ofDaysByThemselves(int week) {
            return upTo(week, lastDayOf(week), 0);
        }

        int leastUpTo(int week, int lastDay) {
            return upTo(week, lastDay, choiceUpTo(week, lastDay));
        }

        private static int lastDayOf(int week) {
            return week * WEEK_DAYS + WEEK_DAYS - 1;
        }

        private int choiceUpTo(int week, int lastDay) {
            int least = upTo(week, lastDay, 0);
            int choice = 0;
            for (int z = 1; z <= ZONES; z++) {
                int cost = upTo(week, lastDay, z);
                if (cost < least) {
                    least = cost;
                    choice = z;
                }
            }
            return choice;
        }

        /** What the week costs up to that day with the week ticket for z (0: without one). */
        private int upTo(int week, int lastDay, int z) {
            int sum = weekTickets.at(week * CHOICES + z);
            for (int day = week * WEEK_DAYS; day <= lastDay && day < DAYS; day++) {
                sum += beside.at(day * CHOICES + z);
            }
            return sum;
        }
    }
}
