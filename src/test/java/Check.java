/** Counts what was looked at and prints what is not as due; the process ends with 1 if something was not. */
final class Check {
    private int looked = 0;
    private int wrong = 0;

    void due(String what, long got, long want) {
        looked++;
        if (got != want) {
            say(what + " answered " + got + ", due is " + want);
        }
    }

    void due(String what, String got, String want) {
        looked++;
        if (!got.equals(want)) {
            say(what + " answered " + got + ", due is " + want);
        }
    }

    void refused(String what, Class<? extends RuntimeException> want, Runnable call) {
        looked++;
        try {
            call.run();
            say(what + " threw nothing, due is " + want.getSimpleName());
        } catch (RuntimeException e) {
            if (e.getClass() != want) {
                say(what + " threw " + e + ", due is " + want.getSimpleName());
            }
        }
    }

    /** The call must throw and leave every answer of the client as it was. */
    void refusedUnchanged(String what, StrataClient x, Class<? extends RuntimeException> want, Runnable call) {
        String before = Scene.answers(x);
        refused(what, want, call);
        due(what + ": what the client answers afterwards", Scene.answers(x), before);
    }

    void end() {
        System.out.println(looked + " answers looked at, " + wrong + " not as due");
        if (wrong != 0) {
            System.exit(1);
        }
    }

    private void say(String line) {
        wrong++;
        System.out.println(line);
    }
}
