import java.util.Arrays;
import java.util.function.Consumer;
import java.util.function.Supplier;

/** Counts what was looked at and prints what is not as due; the process ends with 1 if something was not. */
final class Check {
    private String sentence = "";
    private int looked = 0;
    private int wrong = 0;

    /** What a test throws by itself is not as due either, and does not keep the next ones from running. */
    void all(Runnable... tests) {
        for (Runnable test : tests) {
            sentence = "";
            try {
                test.run();
            } catch (RuntimeException e) {
                say("a call threw " + e + ", due is an answer: " + Arrays.toString(e.getStackTrace()));
            }
        }
    }

    /** The words of the document that the next lines are about: a wrong answer is printed with them. */
    void about(String words) {
        sentence = words;
    }

    void due(String what, long got, long want) {
        looked++;
        if (got != want) {
            say(what + " answered " + got + ", due is " + want);
        }
    }

    void due(String what, String got, String want) {
        looked++;
        if (!got.equals(want)) {
            say(what + " answered " + got + ", due is " + want);
        }
    }

    void refused(String what, Class<? extends RuntimeException> want, Runnable call) {
        looked++;
        try {
            call.run();
            say(what + " threw nothing, due is " + want.getSimpleName());
        } catch (RuntimeException e) {
            if (e.getClass() != want) {
                say(what + " threw " + e + ", due is " + want.getSimpleName());
            }
        }
    }

    /** The call must throw, and leave the client like a twin that was made in the same way and not called. */
    void refusedUnchanged(String what, Class<? extends RuntimeException> want, Supplier<StrataClient> maker,
            Consumer<StrataClient> call) {
        StrataClient x = maker.get();
        refused(what, want, () -> call.accept(x));
        due(what + ": everything afterwards", Scene.everything(x), Scene.everything(maker.get()));
        StrataClient y = maker.get();
        refused(what, want, () -> call.accept(y));
        due(what + ": expected times afterwards", Scene.expectedTimes(y), Scene.expectedTimes(maker.get()));
    }

    void end() {
        System.out.println(looked + " answers looked at, " + wrong + " not as due");
        if (wrong != 0) {
            System.exit(1);
        }
    }

    private void say(String line) {
        wrong++;
        System.out.println((sentence.isEmpty() ? "" : "[" + sentence + "] ") + line);
    }
}
