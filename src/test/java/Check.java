import java.util.List;
import java.util.Set;
import java.util.TreeSet;
import java.util.function.Function;
import java.util.function.IntFunction;
import java.util.function.Supplier;
import java.util.function.ToLongFunction;

/**
 * Counts the answers of a test that are not the ones that are due, each under the sentence of the
 * document that it holds, and ends the test.
 *
 * <p>A shop is given as the calls that make it, since a refused call is tried on one of two shops
 * that are made alike: all that both answer afterwards must be the same.
 */
final class Check {
    static final int NO_SUCH = -1;
    static final int BAD_VALUE = -2;
    static final int NOT_POSSIBLE = -3;
    static final int LIMIT = -4;
    static final int BAD_TEXT = -5;
    static final int NONE = -6;

    private static final Document DOCUMENT = new Document();

    private final String test;
    private String sentence = "";
    private final Set<String> sentences = new TreeSet<>();
    private int checks;
    private int checksBeforeSentence;
    private int wrong;

    Check(String test) {
        this.test = test;
    }

    /** What is checked from here on holds this sentence of a promise. */
    void promise(int number, String words) {
        begin("Promise " + number, words);
    }

    /** The same for a sentence of the section Terms. */
    void terms(String words) {
        begin("Terms", words);
    }

    /** The same for a sentence of another section, such as "What it is". */
    void section(String name, String words) {
        begin(name, words);
    }

    private void begin(String section, String words) {
        endSentence();
        sentence = section + ", \"" + words + "\": ";
        sentences.add(sentence);
        if (!DOCUMENT.says(section, words)) {
            fail("the document does not say so");
        }
    }

    private void endSentence() {
        if (!sentence.isEmpty() && checks == checksBeforeSentence) {
            fail("nothing is checked");
        }
        checksBeforeSentence = checks;
    }

    private void fail(String what) {
        wrong++;
        System.out.println(test + ": " + sentence + what);
    }

    void due(String call, long got, long want) {
        checks++;
        if (got != want) {
            fail(call + " answered " + got + ", due is " + want);
        }
    }

    void holds(String what, boolean isSo) {
        checks++;
        if (!isSo) {
            fail(what + " does not hold");
        }
    }

    void same(String when, List<String> got, List<String> want) {
        checks++;
        for (int i = 0; i < Math.max(got.size(), want.size()); i++) {
            String gotHere = i < got.size() ? got.get(i) : "nothing";
            String wantHere = i < want.size() ? want.get(i) : "nothing";
            if (!gotHere.equals(wantHere)) {
                fail(when + ": " + gotHere + ", due is " + wantHere);
                return;
            }
        }
    }

    private static boolean isErrorCode(long answer) {
        return answer >= BAD_TEXT && answer <= NO_SUCH;
    }

    void taken(String name, Supplier<FishCounter> made, ToLongFunction<FishCounter> call) {
        long answer = call.applyAsLong(made.get());
        holds(name + ": an answer without an error code, not " + answer, !isErrorCode(answer));
    }

    void noSuch(String name, Supplier<FishCounter> made, ToLongFunction<FishCounter> call) {
        refused(name, made, call, NO_SUCH);
    }

    void badValue(String name, Supplier<FishCounter> made, ToLongFunction<FishCounter> call) {
        refused(name, made, call, BAD_VALUE);
    }

    void notPossible(String name, Supplier<FishCounter> made, ToLongFunction<FishCounter> call) {
        refused(name, made, call, NOT_POSSIBLE);
    }

    void limit(String name, Supplier<FishCounter> made, ToLongFunction<FishCounter> call) {
        refused(name, made, call, LIMIT);
    }

    void badText(String name, Supplier<FishCounter> made, ToLongFunction<FishCounter> call) {
        refused(name, made, call, BAD_TEXT);
    }

    private void refused(String name, Supplier<FishCounter> made, ToLongFunction<FishCounter> call, int code) {
        due(name, call.applyAsLong(made.get()), code);
        changesNothing(name, made, call);
    }

    /** The calls after it answer as if it had not been made. */
    void changesNothing(String name, Supplier<FishCounter> made, ToLongFunction<FishCounter> call) {
        follow(name, made, call, Answers::asked);
        follow(name, made, call, Answers::undone);
        follow(name, made, call, Answers::goneOn);
        follow(name, made, call, Answers::typed);
    }

    private void follow(String name, Supplier<FishCounter> made, ToLongFunction<FishCounter> call,
            Function<FishCounter, List<String>> answers) {
        FishCounter with = made.get();
        FishCounter without = made.get();
        call.applyAsLong(with);
        same("after " + name, answers.apply(with), answers.apply(without));
    }

    /** One state is saved, and undo() brings it back; the shop keeps fewer than six states before. */
    void undone(String name, Supplier<FishCounter> made, ToLongFunction<FishCounter> call) {
        taken(name, made, call);
        int saved = Answers.undone(made.get()).size() / 2;
        holds("fewer than six states before " + name, saved < 6);
        due("undo() of " + name, called(made, call).undo(), saved);
        Supplier<FishCounter> undone = () -> {
            FishCounter shop = called(made, call);
            shop.undo();
            return shop;
        };
        same("undo of " + name, Answers.asked(undone.get()), Answers.asked(made.get()));
        same("undo of " + name, Answers.undone(undone.get()), Answers.undone(made.get()));
        same("undo of " + name, Answers.goneOn(undone.get()), Answers.goneOn(made.get()));
    }

    private static FishCounter called(Supplier<FishCounter> made, ToLongFunction<FishCounter> call) {
        FishCounter shop = made.get();
        call.applyAsLong(shop);
        return shop;
    }

    /** The last values that are taken and the first that are refused, on either side. */
    void rangeElseNoSuch(int least, int most, Supplier<FishCounter> made,
            IntFunction<ToLongFunction<FishCounter>> callWith) {
        range(least, most, NO_SUCH, made, callWith);
    }

    void rangeElseBadValue(int least, int most, Supplier<FishCounter> made,
            IntFunction<ToLongFunction<FishCounter>> callWith) {
        range(least, most, BAD_VALUE, made, callWith);
    }

    private void range(int least, int most, int code, Supplier<FishCounter> made,
            IntFunction<ToLongFunction<FishCounter>> callWith) {
        for (int value = least; value <= most; value++) {
            if (value < least + 50 || value > most - 50) {
                taken("with " + value, made, callWith.apply(value));
            }
        }
        for (int value : new int[] {least - 1, most + 1, Integer.MIN_VALUE, Integer.MAX_VALUE}) {
            refused("with " + value, made, callWith.apply(value), code);
        }
    }

    /** The lots that there are, and numbers that no lot has: gone, not given yet, or never given. */
    void lotsElseNoSuch(int[] lots, int[] others, Supplier<FishCounter> made,
            IntFunction<ToLongFunction<FishCounter>> callWith) {
        for (int lot : lots) {
            taken("lot " + lot, made, callWith.apply(lot));
        }
        for (int lot : others) {
            noSuch("lot " + lot, made, callWith.apply(lot));
        }
        for (int lot : new int[] {0, -1, NONE, Integer.MIN_VALUE, Integer.MAX_VALUE}) {
            noSuch("lot " + lot, made, callWith.apply(lot));
        }
    }

    void finish() {
        endSentence();
        System.out.println(test + ": " + sentences.size() + " sentences, " + checks + " checks, " + wrong + " wrong");
        if (checks == 0 || wrong != 0) {
            System.exit(1);
        }
    }
}
