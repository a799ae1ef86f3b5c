import java.util.Random;

/** Rows of calls by a fixed seed, on the class and on the plain model: all answers must be the same. */
public final class ModelTest {
    private static final int ROWS = 1500;
    private static final int STEPS = 120;
    /** Behind an object's 512th call nothing is promised; no step makes more than 80 calls. */
    private static final int LAST_START = 512 - 80;

    private final Random random;
    private final int row;
    private final ToldNineTimes x = new ToldNineTimes();
    private final PlainModel model = new PlainModel();
    private final Checks checks;
    private int calls;

    private ModelTest(int row, Checks checks) {
        this.row = row;
        this.checks = checks;
        random = new Random(row);
    }

    public static void main(String[] args) {
        Checks checks = new Checks();
        for (int row = 0; row < ROWS; row++) {
            new ModelTest(row, checks).run();
        }
        checks.end();
    }

    private void run() {
        for (int i = 0; i < STEPS && calls <= LAST_START; i++) {
            if (i == 0 || below(40) == 0) {
                newDay();
            } else {
                anyCall();
            }
        }
    }

    private int below(int bound) {
        return random.nextInt(bound);
    }

    /** Mostly in 0 .. bound - 1, sometimes just outside of it or far away. */
    private int about(int bound) {
        switch (below(30)) {
            case 0: return -1;
            case 1: return bound;
            case 2: return random.nextInt();
            default: return below(bound);
        }
    }

    private void same(String call, long got, long want) {
        calls++;
        checks.due("row " + row + ": " + call, got, want);
    }

    private void newDay() {
        same("wipe", x.wipe(), model.wipe());
        String text = dayText();
        if (below(4) == 0) {
            text = spoilt(text);
        }
        int at = 0;
        while (at < text.length()) {
            int n = Math.min(text.length() - at, 1 + below(8));
            long v = random.nextLong();
            for (int i = 0; i < n; i++) {
                v = v << 8 | text.charAt(at + i);
            }
            same("write", x.write(n, v), model.write(n, v));
            at += n;
        }
        same("fault of " + text, x.fault(), model.fault());
        same("day of " + text, x.day(), model.day());
    }

    private String dayText() {
        StringBuilder text = new StringBuilder("D").append(below(3) == 0 ? 1 + below(2) : 0);
        int people = below(8) == 0 ? below(7) : 3 + below(4);
        int news = below(8) == 0 ? below(4) : 3;
        boolean near = below(2) == 0;
        int told = 0;
        while (people > 0 || news > 0) {
            boolean person = news == 0 || people > 0 && below(5) > 0;
            if (person) {
                people--;
                told++;
                text.append('P');
                for (int hour = 0; hour < 6; hour++) {
                    text.append("001122-0".charAt(below(near ? 4 : 7)));
                }
            } else {
                news--;
                text.append('N').append(below(10)).append(below(10));
                for (int p = told - 1; p >= 0; p--) {
                    if (below(3) == 0) {
                        text.append(p);
                    }
                }
            }
        }
        return text.toString();
    }

    private String spoilt(String text) {
        int at = below(text.length());
        switch (below(4)) {
            case 0: return text.substring(0, at);
            case 1: return text.substring(0, at) + text.substring(at + 1);
            case 2: return text.substring(0, at) + "DPN0123456789- \u00ff".charAt(below(16)) + text.substring(at + 1);
            default: return text.length() < 72 ? text + "DPN0123456789-".charAt(below(14)) : text;
        }
    }

    private void anyCall() {
        int person = about(6);
        int news = about(3);
        switch (below(20)) {
            case 0: lookAtDay(person, news); break;
            case 1: lookAtAll(); break;
            case 2: case 3: case 4: case 5: case 6:
                same("may " + person + " " + news, x.may(person, news), model.may(person, news));
                same("tell " + person + " " + news, x.tell(person, news), model.tell(person, news));
                break;
            case 7: same("hour", x.hour(), model.hour()); break;
            case 8: case 9: same("undo", x.undo(), model.undo()); break;
            case 10: case 11: judge(news); break;
            case 12: case 13: plans(news); break;
            case 14: persons(person, news); break;
            case 15: chances(person, news); break;
            case 16: case 17: sights(person, news); break;
            case 18: slots(); break;
            default: bytes(); break;
        }
    }

    private void lookAtDay(int person, int news) {
        int hour = about(6);
        int what = about(5);
        same("where " + person + " " + hour, x.where(person, hour), model.where(person, hour));
        same("news " + news + " " + what, x.news(news, what), model.news(news, what));
    }

    private void lookAtAll() {
        for (int what = -1; what <= 9; what++) {
            same("about " + what, x.about(what), model.about(what));
        }
        for (int p = 0; p < 6; p++) {
            for (int n = 0; n < 3; n++) {
                same("told " + p + " " + n, x.told(p, n), model.told(p, n));
                same("left " + p + " " + n, x.left(p, n), model.left(p, n));
                same("news " + n + " " + p, x.news(n, p), model.news(n, p));
            }
        }
    }

    private void judge(int news) {
        int n = 1 + about(4);
        int figures = 0;
        for (int i = 0; i < Math.min(n, 5); i++) {
            int figure = below(3) == 0 ? 9 : below(20) == 0 ? below(9) : below(4);
            figures = figures * 10 + figure;
        }
        int told = below(20) == 0 ? about(100000) : figures;
        same("judge " + news + " " + n + " " + told, x.judge(news, n, told), model.judge(news, n, told));
    }

    private void plans(int news) {
        int set = below(3) == 0 ? about(64) : 1 << below(6) | 1 << below(3);
        int i = about(6);
        same("fewest " + news + " " + set, x.fewest(news, set), model.fewest(news, set));
        same("planAt " + news + " " + set + " " + i, x.planAt(news, set, i), model.planAt(news, set, i));
        same("most " + news, x.most(news), model.most(news));
    }

    private void persons(int person, int news) {
        same("spent " + news + " " + person, x.spent(news, person), model.spent(news, person));
        same("duel " + news + " " + person, x.duel(news, person), model.duel(news, person));
    }

    private void chances(int person, int news) {
        int place = about(3);
        int tenths = about(11);
        boolean upper = random.nextBoolean();
        same("chance " + news + " " + person + " " + place + " " + tenths + " " + upper,
            x.chance(news, person, place, tenths, upper), model.chance(news, person, place, tenths, upper));
    }

    private void sights(int person, int news) {
        int hour = about(6);
        boolean knew = random.nextBoolean();
        if (below(3) == 0) {
            same("unsee", x.unsee(), model.unsee());
        }
        same("sight", x.sight(hour, person, knew), model.sight(hour, person, knew));
        same("rows " + news, x.rows(news), model.rows(news));
    }

    private void slots() {
        int slot = about(2);
        if (random.nextBoolean()) {
            same("keep " + slot, x.keep(slot), model.keep(slot));
        } else {
            same("again " + slot, x.again(slot), model.again(slot));
        }
    }

    private void bytes() {
        int n = 1 + about(8);
        long v = random.nextLong();
        same("write " + n, x.write(n, v), model.write(n, v));
        same("fault", x.fault(), model.fault());
    }
}
