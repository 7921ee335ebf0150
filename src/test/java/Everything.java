import java.util.ArrayList;
import java.util.List;

/** The answers to everything that can be asked at a stand, on as many new objects as their 512 calls ask for. */
final class Everything {
    private final Asker asker;
    private final List<String> answers = new ArrayList<>();

    private Everything(Stand stand) {
        asker = new Asker(stand);
    }

    static List<String> askedAt(Stand stand) {
        Everything all = new Everything(stand);
        all.askOfAll();
        for (int card = 0; card < 4; card++) {
            all.askOfOne(card);
        }
        all.askWhatWasTold();
        for (int person = 0; person < 4; person++) {
            all.askForRefunds(person);
        }
        all.askOfCardsByChanging();
        all.askForMoneyByClosing();
        return all.answers;
    }

    private void ask(String name, int... numbers) {
        Call call = Call.of(name, numbers);
        answers.add(call + " answers " + asker.answer(call));
    }

    /** A digest has all answers of many, ofCard, ofDay, ofLeg, ofWeek and share in it. */
    private void askOfAll() {
        ask("digest");
        for (int what = 0; what <= 8; what++) {
            ask("many", what);
        }
        for (int day = 0; day < 28; day++) {
            ask("meanFare", day);
        }
    }

    private void askOfOne(int card) {
        for (int what = 0; what <= 7; what++) {
            ask("ofCard", card, what);
        }
        for (int day = 0; day < 28; day++) {
            ask("check", card, day, day == 0 ? 110 : 1439);
            ask("worth", card, day / 7, day);
            ask("wouldCost", card, day % 10, 1, day % 2, day, 500);
            for (int k = 0; k < 3; k++) {
                ask("ofJourney", card, day, k, k);
                ask("ofJourney", card, day, k, 3);
            }
        }
        for (int stop = 0; stop < 10; stop++) {
            ask("guess", card, 9, stop, 1);
            ask("guess", card, 27, stop, 0);
        }
    }

    private void askWhatWasTold() {
        asker.makeAnew();
        for (int stop = 0; stop < 10; stop++) {
            ask("zone", stop, 1);
        }
        for (int line = 0; line < 6; line++) {
            ask("carrier", line, 0);
        }
        ask("tariff", 27, 1, 1, 1, 1);
        ask("digest");
    }

    private void askForRefunds(int person) {
        asker.makeAnew();
        for (int line = 0; line < 6; line++) {
            for (int day = 0; day < 28; day++) {
                ask("late", line, day, 200);
                ask("refund", person, line, day);
            }
        }
    }

    private void askOfCardsByChanging() {
        asker.makeAnew();
        for (int card = 0; card < 4; card++) {
            ask("lose", card, 0);
            ask("pay", card, 1);
            ask("tap", card, 9, 5, 1, 27, 1439);
            ask("tap", card, 9, 5, 1, 27, 1439);
            for (int person = 0; person < 4; person++) {
                ask("tie", card, person);
            }
        }
        ask("card");
        ask("digest");
    }

    private void askForMoneyByClosing() {
        asker.makeAnew();
        for (int person = 0; person < 4; person++) {
            for (int week = 0; week < 4; week++) {
                ask("settle", person, week);
            }
        }
        for (int day = 0; day <= 28; day++) {
            ask("close");
        }
        ask("digest");
    }
}
