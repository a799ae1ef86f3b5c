/** Counts answers that are not the ones that are due, and writes texts for the tests. */
final class Checks {
    private int wrong;
    private int asked;

    void due(String call, long got, long want) {
        asked++;
        if (got != want) {
            wrong++;
            System.out.println(call + " answered " + got + ", due is " + want);
        }
    }

    void dueAll(String what, boolean holds) {
        due(what, holds ? 1 : 0, 1);
    }

    void end() {
        System.out.println(asked + " answers looked at, " + wrong + " not as due");
        if (wrong != 0) {
            System.exit(1);
        }
    }

    /** A text of up to 72 bytes comes behind what is written already. */
    static void writeText(ToldNineTimes x, String text) {
        for (int i = 0; i < text.length(); i++) {
            x.write(1, text.charAt(i));
        }
    }

    /** An object whose day is this text. */
    static ToldNineTimes on(String text) {
        ToldNineTimes x = new ToldNineTimes();
        remake(x, text);
        return x;
    }

    static void remake(ToldNineTimes x, String text) {
        x.wipe();
        writeText(x, text);
        if (x.day() < 0) {
            throw new IllegalStateException("no day: " + text);
        }
    }
}
