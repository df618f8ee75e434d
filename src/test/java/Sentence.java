import java.util.List;
import java.util.function.Supplier;
import java.util.function.ToIntFunction;

/** Answers that are due by one sentence of the document after another. */
final class Sentence {
    private final Due due = new Due();
    private String sentence = "";
    private boolean answered = true;

    /** The sentence, as it stands in the document, that the answers from here on are due by. */
    void by(String words) {
        close();
        sentence = words;
        answered = false;
    }

    private void close() {
        if (!answered) due.is("\"" + sentence + "\": answers that are due by it", 0, 1);
    }

    void is(String call, long got, long want) {
        answered = true;
        due.is("\"" + sentence + "\": " + call, got, want);
    }

    void same(String call, Object got, Object want) {
        if (got.equals(want)) is(call, 1, 1);
        else is(call + ": " + got + " should be " + want, 0, 1);
    }

    void rowIs(String call, TailSpeaks x, int r, String want) {
        same(call + ": row " + r, House.row(x, r), want);
    }

    /** A call that is refused, and behind which all answers are as without it. */
    void refused(String call, Supplier<TailSpeaks> house, ToIntFunction<TailSpeaks> done, int want) {
        TailSpeaks x = house.get();
        is(call, done.applyAsInt(x), want);
        changesNothing(call, x, house.get());
    }

    void changesNothing(String call, TailSpeaks x, TailSpeaks without) {
        List<Integer> got = House.future(x);
        same(call + " changes nothing", got, House.future(without));
    }

    void end() {
        close();
        due.end();
    }
}
