/** Counts answers that are not the ones that are due, and writes texts for the tests. */
final class Checks {
    private int wrong;
    private int asked;

    void due(String call, long got, long want) {
        asked++;
        if (got != want) {
            wrong++;
            System.out.println(call + " answered " + got + ", due is " + want);
        }
    }

    void dueAll(String what, boolean holds) {
        due(what, holds ? 1 : 0, 1);
    }

    void end() {
        System.out.println(asked + " answers looked at, " + wrong + " not as due");
        if (asked == 0) {
            System.out.println("nothing was looked at");
        }
        if (wrong != 0 || asked == 0) {
            System.exit(1);
        }
    }

    /** A text of up to 72 bytes comes behind what is written already, by as few calls as can be. */
    static void writeText(ToldNineTimes x, String text) {
        for (int at = 0; at < text.length(); at += 8) {
            String some = text.substring(at, Math.min(text.length(), at + 8));
            x.write(some.length(), valueOf(some));
        }
    }

    /** Up to eight bytes as the lowest ones of a number, the first one the highest of these. */
    static long valueOf(String bytes) {
        long value = 0;
        for (int i = 0; i < bytes.length(); i++) {
            value = value << 8 | bytes.charAt(i) & 255;
        }
        return value;
    }

    /** An object whose day is this text. */
    static ToldNineTimes on(String text) {
        ToldNineTimes x = new ToldNineTimes();
        remake(x, text);
        return x;
    }

    static void remake(ToldNineTimes x, String text) {
        x.wipe();
        writeText(x, text);
        if (x.day() < 0) {
            throw new IllegalStateException("no day: " + text);
        }
    }

    static void hours(ToldNineTimes x, int hours) {
        for (int i = 0; i < hours; i++) {
            x.hour();
        }
    }
}
