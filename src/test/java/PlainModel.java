import java.math.BigInteger;
import java.util.ArrayList;
import java.util.List;

/**
 * The document over again, by other means and as plainly as can be: a state is made anew from the day
 * by all its acts, and plans are found by trying every row of sets.
 */
final class PlainModel {
    static final int UNKNOWN = -1, BAD = -2, LATE = -3, FULL = -4, NONE = -9;

    private static final class Act {
        final int person;
        final int news;

        Act(int person, int news) {
            this.person = person;
            this.news = news;
        }
    }

    private static final class Sight {
        final int hour;
        final int person;
        final boolean knew;

        Sight(int hour, int person, boolean knew) {
            this.hour = hour;
            this.person = person;
            this.knew = knew;
        }
    }

    /** What follows from a day by a history of acts. */
    private static final class World {
        int hour;
        final boolean[][] knows = new boolean[6][3];
        final int[][] told = new int[6][3];
        final int[][] there = new int[6][3];
        final int[][] at = new int[3][3];
        final int[] total = new int[3];
    }

    private String text = "";
    private int law;
    private List<String> people = new ArrayList<>();
    private List<String> newsTexts = new ArrayList<>();
    private List<Act> history = new ArrayList<>();
    private int undoable;
    private final List<Sight> sights = new ArrayList<>();
    private final List<List<Act>> slots = new ArrayList<>(List.of(new ArrayList<>(), new ArrayList<>()));
    private final boolean[] kept = new boolean[2];

    // ---- the day

    int write(int n, long v) {
        if (n < 1 || n > 8) {
            return BAD;
        }
        if (text.length() + n > 72) {
            return FULL;
        }
        String hex = String.format("%016x", v).substring(16 - 2 * n);
        for (int i = 0; i < n; i++) {
            text += (char) Integer.parseInt(hex.substring(2 * i, 2 * i + 2), 16);
        }
        return text.length();
    }

    int wipe() {
        int length = text.length();
        text = "";
        return length;
    }

    static boolean isDay(String text) {
        if (!text.matches("D[0-2](P[012-]{6}|N[0-9][0-9][0-5]*)*")) {
            return false;
        }
        int persons = 0;
        int news = 0;
        for (String part : text.substring(2).split("(?=[PN])")) {
            if (part.startsWith("P")) {
                persons++;
            } else if (part.startsWith("N")) {
                news++;
                String knowing = part.substring(3);
                if (knowing.chars().distinct().count() != knowing.length()) {
                    return false;
                }
                int there = persons;
                if (knowing.chars().anyMatch(c -> c - '0' >= there)) {
                    return false;
                }
            }
        }
        return persons <= 6 && news <= 3;
    }

    /** Whether something behind it can make it a day. */
    static boolean canBecomeDay(String start) {
        for (String tail : new String[] {"", "0", "00", "000", "0000", "00000", "000000", "D0"}) {
            if (isDay(start + tail)) {
                return true;
            }
        }
        return false;
    }

    int fault() {
        for (int i = 0; i < text.length(); i++) {
            if (!canBecomeDay(text.substring(0, i + 1))) {
                return i;
            }
        }
        return isDay(text) ? NONE : text.length();
    }

    int day() {
        if (fault() != NONE) {
            return LATE;
        }
        law = text.charAt(1) - '0';
        people = new ArrayList<>();
        newsTexts = new ArrayList<>();
        for (String part : text.substring(2).split("(?=[PN])")) {
            if (part.startsWith("P")) {
                people.add(part.substring(1));
            } else if (part.startsWith("N")) {
                newsTexts.add(part.substring(1));
            }
        }
        history = new ArrayList<>();
        undoable = 0;
        kept[0] = false;
        kept[1] = false;
        return people.size();
    }

    private boolean person(int person) {
        return person >= 0 && person < people.size();
    }

    private boolean aNews(int news) {
        return news >= 0 && news < newsTexts.size();
    }

    private int limit(int news) {
        return newsTexts.get(news).charAt(0) - '0';
    }

    private int worth(int news) {
        return newsTexts.get(news).charAt(1) - '0';
    }

    private int place(int person, int hour) {
        char sign = people.get(person).charAt(hour);
        return sign == '-' ? NONE : sign - '0';
    }

    private World world() {
        return world(history);
    }

    private World world(List<Act> acts) {
        World w = new World();
        for (int news = 0; news < newsTexts.size(); news++) {
            for (char c : newsTexts.get(news).substring(2).toCharArray()) {
                w.knows[c - '0'][news] = true;
            }
        }
        halves(w);
        for (Act act : acts) {
            carryOut(w, act);
        }
        return w;
    }

    private void halves(World w) {
        for (int p = 0; p < people.size() && newsTexts.size() == 3; p++) {
            w.knows[p][2] |= w.knows[p][0] && w.knows[p][1];
        }
    }

    private void carryOut(World w, Act act) {
        if (act.person < 0) {
            w.hour++;
            return;
        }
        int place = place(act.person, w.hour);
        w.told[act.person][act.news]++;
        w.at[act.news][place]++;
        w.total[act.news]++;
        for (int p = 0; p < people.size(); p++) {
            if (place(p, w.hour) == place) {
                w.there[p][act.news]++;
                w.knows[p][act.news] = true;
            }
        }
        halves(w);
    }

    private boolean mayBe(World w, Act act) {
        if (act.person < 0) {
            return w.hour < 5;
        }
        int place = place(act.person, w.hour);
        if (!w.knows[act.person][act.news] || place == NONE || w.total[act.news] >= limit(act.news)) {
            return false;
        }
        boolean another = false;
        for (int p = 0; p < people.size(); p++) {
            another |= p != act.person && place(p, w.hour) == place;
        }
        boolean lawful = law == 0 || law == 1 && w.told[act.person][act.news] < 1
            || law == 2 && w.at[act.news][place] < 3;
        return another && lawful;
    }

    private int knowing(World w, int news) {
        int set = 0;
        for (int p = 0; p < people.size(); p++) {
            set += w.knows[p][news] ? 1 << p : 0;
        }
        return set;
    }

    int about(int what) {
        World w = world();
        switch (what) {
            case 0: return people.size();
            case 1: return newsTexts.size();
            case 2: return law;
            case 3: return w.hour;
            case 4: return undoable;
            case 5: return w.total[0] + w.total[1] + w.total[2];
            case 6: return worthOfAll(w);
            case 7: return sights.size();
            case 8: return text.length();
            default: return BAD;
        }
    }

    private int worthOfAll(World w) {
        int sum = 0;
        for (int p = 0; p < people.size(); p++) {
            for (int n = 0; n < newsTexts.size(); n++) {
                sum += w.knows[p][n] ? worth(n) : 0;
            }
        }
        return sum;
    }

    int where(int person, int hour) {
        if (!person(person)) {
            return UNKNOWN;
        }
        return hour < 0 || hour > 5 ? BAD : place(person, hour);
    }

    int news(int news, int what) {
        if (!aNews(news)) {
            return UNKNOWN;
        }
        World w = world();
        switch (what) {
            case 0: return limit(news);
            case 1: return worth(news);
            case 2: return w.total[news];
            case 3: return knowing(w, news);
            case 4: return knowing(world(List.of()), news);
            default: return BAD;
        }
    }

    int told(int person, int news) {
        return person(person) && aNews(news) ? world().told[person][news] : UNKNOWN;
    }

    int left(int person, int news) {
        if (!person(person) || !aNews(news)) {
            return UNKNOWN;
        }
        World w = world();
        return w.knows[person][news] ? limit(news) - w.there[person][news] : LATE;
    }

    // ---- acts

    int may(int person, int news) {
        if (!person(person) || !aNews(news)) {
            return UNKNOWN;
        }
        return mayBe(world(), new Act(person, news)) ? 1 : 0;
    }

    private void act(Act act) {
        history.add(act);
        undoable = Math.min(16, undoable + 1);
    }

    int tell(int person, int news) {
        int may = may(person, news);
        if (may != 1) {
            return may == 0 ? LATE : may;
        }
        int before = Integer.bitCount(knowing(world(), news));
        act(new Act(person, news));
        return Integer.bitCount(knowing(world(), news)) - before;
    }

    int hour() {
        if (world().hour == 5) {
            return LATE;
        }
        act(new Act(-1, -1));
        return world().hour;
    }

    int undo() {
        if (undoable == 0) {
            return LATE;
        }
        history.remove(history.size() - 1);
        undoable--;
        return undoable;
    }

    int judge(int news, int n, int row) {
        if (!aNews(news)) {
            return UNKNOWN;
        }
        if (n < 1 || n > 4 || row < 0 || String.valueOf(row).length() > n) {
            return BAD;
        }
        String figures = String.format("%0" + n + "d", row);
        World w = world();
        for (int i = 0; i < n; i++) {
            int figure = figures.charAt(i) - '0';
            Act act = figure == 9 ? new Act(-1, -1) : new Act(figure, news);
            if (figure != 9 && !person(figure) || !mayBe(w, act)) {
                return i;
            }
            carryOut(w, act);
        }
        return NONE;
    }

    // ---- plans of one news

    /** Who knows it behind an hour; -1: this set may not be. */
    private int behind(int hour, int set, int known) {
        int all = known;
        for (int place = 0; place < 3; place++) {
            if ((set & 1 << place) != 0) {
                int there = 0;
                for (int p = 0; p < people.size(); p++) {
                    there |= place(p, hour) == place ? 1 << p : 0;
                }
                if (Integer.bitCount(there) < 2 || (there & known) == 0) {
                    return -1;
                }
                all |= there;
            }
        }
        return all;
    }

    /** Every row of sets from an hour on, the first ones by sets first. */
    private void everyRow(int hour, int known, int left, int[] sets, Visitor visitor) {
        if (hour > 5) {
            visitor.end(known, left, sets);
            return;
        }
        for (int set = 0; set < 8; set++) {
            int next = behind(hour, set, known);
            int rest = left - Integer.bitCount(set);
            sets[hour] = set;
            if (next >= 0 && rest >= 0 && visitor.goesOn(hour, next, rest)) {
                everyRow(hour + 1, next, rest, sets, visitor);
            }
        }
    }

    private abstract static class Visitor {
        boolean goesOn(int hour, int known, int left) {
            return true;
        }

        abstract void end(int known, int left, int[] sets);
    }

    private static final class Fewest extends Visitor {
        final int people;
        int most = -1;
        int[] plan;

        Fewest(int people) {
            this.people = people;
        }

        @Override void end(int known, int left, int[] sets) {
            if ((people & known) == people && left > most) {
                most = left;
                plan = sets.clone();
            }
        }
    }

    private static final class Most extends Visitor {
        int most;

        @Override void end(int known, int left, int[] sets) {
            most = Math.max(most, Integer.bitCount(known));
        }
    }

    private static final class Spent extends Visitor {
        final int person;
        int first = 99;

        Spent(int person) {
            this.person = person;
        }

        @Override boolean goesOn(int hour, int known, int left) {
            boolean knows = (known & 1 << person) != 0;
            if (!knows && left == 0) {
                first = Math.min(first, hour + 1);
            }
            return !knows;
        }

        @Override void end(int known, int left, int[] sets) {
        }
    }

    private static final class Fitting extends Visitor {
        final List<Sight> sights;
        int count;

        Fitting(List<Sight> sights) {
            this.sights = sights;
        }

        @Override boolean goesOn(int hour, int known, int left) {
            for (Sight sight : sights) {
                if (sight.hour == hour && sight.knew != ((known & 1 << sight.person) != 0)) {
                    return false;
                }
            }
            return true;
        }

        @Override void end(int known, int left, int[] sets) {
            count++;
        }
    }

    private int planRefusal(int news, int set) {
        if (!aNews(news)) {
            return UNKNOWN;
        }
        if (set < 0 || set > (1 << people.size()) - 1) {
            return BAD;
        }
        return law == 0 ? 0 : LATE;
    }

    private Fewest plan(int news, int set) {
        World w = world();
        Fewest visitor = new Fewest(set);
        everyRow(w.hour, knowing(w, news), limit(news) - w.total[news], new int[6], visitor);
        return visitor;
    }

    int fewest(int news, int set) {
        int refusal = planRefusal(news, set);
        if (refusal != 0) {
            return refusal;
        }
        Fewest found = plan(news, set);
        return found.plan == null ? NONE : limit(news) - world().total[news] - found.most;
    }

    int planAt(int news, int set, int i) {
        int refusal = planRefusal(news, set);
        if (refusal != 0) {
            return refusal;
        }
        Fewest found = plan(news, set);
        return found.plan == null || i < 0 || i > 5 - world().hour ? NONE : found.plan[world().hour + i];
    }

    int most(int news) {
        if (!aNews(news)) {
            return UNKNOWN;
        }
        if (law != 0) {
            return LATE;
        }
        World w = world();
        Most visitor = new Most();
        everyRow(w.hour, knowing(w, news), limit(news) - w.total[news], new int[6], visitor);
        return visitor.most;
    }

    private int personRefusal(int news, int person) {
        if (!aNews(news) || !person(person)) {
            return UNKNOWN;
        }
        return law == 0 ? 0 : LATE;
    }

    int spent(int news, int person) {
        int refusal = personRefusal(news, person);
        if (refusal != 0) {
            return refusal;
        }
        World w = world();
        if (w.knows[person][news]) {
            return NONE;
        }
        int left = limit(news) - w.total[news];
        if (left == 0) {
            return 0;
        }
        Spent visitor = new Spent(person);
        everyRow(w.hour, knowing(w, news), left, new int[6], visitor);
        return visitor.first == 99 ? NONE : visitor.first - w.hour;
    }

    int duel(int news, int person) {
        int refusal = personRefusal(news, person);
        if (refusal != 0) {
            return refusal;
        }
        World w = world();
        return friendWins(w.hour, knowing(w, news), limit(news) - w.total[news], person) ? 1 : 0;
    }

    /** Places 0 .. 2, and 3 for none. */
    private boolean friendWins(int hour, int known, int left, int person) {
        if (hour > 5) {
            return (known & 1 << person) != 0;
        }
        for (int place = 0; place <= 3; place++) {
            boolean can = place == 3 || left > 0 && behind(hour, 1 << place, known) >= 0;
            if (can && foeLoses(hour, known, left, place, person)) {
                return true;
            }
        }
        return false;
    }

    private boolean foeLoses(int hour, int known, int left, int friend, int person) {
        int afterFriend = friend == 3 ? known : behind(hour, 1 << friend, known);
        int rest = friend == 3 ? left : left - 1;
        for (int place = 0; place <= 3; place++) {
            if (place == 3) {
                if (!friendWins(hour + 1, afterFriend, rest, person)) {
                    return false;
                }
            } else if (place != friend && rest > 0 && behind(hour, 1 << place, known) >= 0) {
                int all = afterFriend | behind(hour, 1 << place, known);
                if (!friendWins(hour + 1, all, rest - 1, person)) {
                    return false;
                }
            }
        }
        return true;
    }

    long chance(int news, int person, int place, int x, boolean upper) {
        if (!aNews(news) || !person(person) || place < 0 || place > 2) {
            return UNKNOWN;
        }
        if (x < 0 || x > 10) {
            return BAD;
        }
        World w = world();
        BigInteger missed = w.knows[person][news] ? BigInteger.ZERO : BigInteger.ONE;
        BigInteger all = BigInteger.ONE;
        for (int hour = w.hour; hour <= 5; hour++) {
            boolean told = false;
            for (int p = 0; p < people.size(); p++) {
                told |= p != person && w.knows[p][news] && place(p, hour) == place;
            }
            if (told && place(person, hour) == place) {
                missed = missed.multiply(BigInteger.valueOf(10 - x));
                all = all.multiply(BigInteger.TEN);
            }
        }
        BigInteger heard = all.subtract(missed);
        return (upper ? heard : all).divide(heard.gcd(all)).longValue();
    }

    // ---- sights

    int sight(int hour, int person, boolean knew) {
        if (!person(person)) {
            return UNKNOWN;
        }
        if (hour < 0 || hour > 5) {
            return BAD;
        }
        if (sights.size() == 8) {
            return FULL;
        }
        sights.add(new Sight(hour, person, knew));
        return sights.size();
    }

    int unsee() {
        int size = sights.size();
        sights.clear();
        return size;
    }

    int rows(int news) {
        if (!aNews(news)) {
            return UNKNOWN;
        }
        Fitting visitor = new Fitting(sights);
        everyRow(0, knowing(world(List.of()), news), limit(news), new int[6], visitor);
        return visitor.count;
    }

    // ---- slots

    int keep(int slot) {
        if (slot != 0 && slot != 1) {
            return UNKNOWN;
        }
        slots.set(slot, new ArrayList<>(history));
        kept[slot] = true;
        return world().hour;
    }

    int again(int slot) {
        if (slot != 0 && slot != 1) {
            return UNKNOWN;
        }
        if (!kept[slot]) {
            return LATE;
        }
        history = new ArrayList<>(slots.get(slot));
        undoable = 0;
        return world().hour;
    }
}
