import java.util.List;

/**
 * Refusals of all promises: "Of several what is told first. What is refused changes nothing." And calls that only
 * ask change nothing either. Each is looked at in several states, by all that can be seen of an object.
 */
public final class RefusalTest {
    private static final Checks CHECKS = new Checks();
    private static final int UNKNOWN = ToldNineTimes.UNKNOWN, BAD = ToldNineTimes.BAD, LATE = ToldNineTimes.LATE;
    private static final int FULL = ToldNineTimes.FULL;
    private static final int MIN = Integer.MIN_VALUE, MAX = Integer.MAX_VALUE;

    private static final String LONG_DAY =
        "D0P000000P000111P001122P222222P011-22P110011N95043215N96102345N97025431";
    private static final String LONG_TEXT =
        "D2P111111P-00111P222222P202222P------P110000N15012345N26543210N37201354";

    /** A state, and which numbers are just outside of what there is in it. */
    private static final class State {
        final String name;
        final Looks.Maker maker;
        final List<Long> untouched;
        final int people;
        final int news;

        State(String name, Looks.Maker maker) {
            this.name = name;
            this.maker = maker;
            untouched = Looks.behind(maker, x -> 0);
            people = maker.make().about(0);
            news = maker.make().about(1);
        }

        /** No persons: just outside, above any day's, what a shift would take for 0, and far away. */
        int[] nobodies() {
            return new int[] {-1, people, 6, 32, MIN, MAX};
        }

        int[] noNews() {
            return new int[] {-1, news, 3, 32, MIN, MAX};
        }
    }

    public static void main(String[] args) {
        State[] states = {
            new State("new", ToldNineTimes::new),
            new State("law 0", () -> busy(0)),
            new State("law 1", () -> busy(1)),
            new State("law 2", () -> busy(2)),
            new State("full", RefusalTest::full),
        };
        for (State state : states) {
            ofTheText(state);
            ofTheDay(state);
            ofActs(state);
            ofSlots(state);
            if (state.news > 0) {
                ofPlaces(state);
                ofOneNews(state);
                ofChances(state);
                ofSights(state);
                asking(state);
            }
        }
        ofPlansByOtherLaws(states[2]);
        ofPlansByOtherLaws(states[3]);
        whatIsFull(states[4]);
        whatIsLate();
        CHECKS.end();
    }

    /** Acts that can be undone, one slot kept, sights, and a text that is another day than the day. */
    private static ToldNineTimes busy(int law) {
        ToldNineTimes x = Checks.on("D" + law + "P000000P0011--P0-2---P11----N930N4513N27");
        x.tell(0, 0);
        x.tell(1, 1);
        x.hour();
        x.keep(1);
        x.tell(1, 0);
        x.sight(0, 1, true);
        x.sight(1, 3, false);
        x.wipe();
        Checks.writeText(x, "D1P012012N55");
        return x;
    }

    /** All that can be full is: people, news, acts, sights, slots, the hour, and (by two bytes) the text. */
    private static ToldNineTimes full() {
        ToldNineTimes x = Checks.on(LONG_DAY);
        for (int i = 0; i < 9; i++) {
            x.tell(i % 2, 0);
            x.tell(1 - i % 2, 1);
        }
        x.keep(0);
        Checks.hours(x, 5);
        x.tell(3, 2);
        x.keep(1);
        for (int i = 0; i < 8; i++) {
            x.sight(i % 6, i % 3, i % 3 < 2);
        }
        x.wipe();
        Checks.writeText(x, LONG_TEXT);
        return x;
    }

    private static void refused(State state, String label, long want, Looks.Call call) {
        String name = state.name + ": " + label;
        ToldNineTimes x = state.maker.make();
        CHECKS.due(name, call.on(x), want);
        CHECKS.due(name + ", once more", call.on(x), want);
        unchanged(state, name, call);
    }

    private static void unchanged(State state, String name, Looks.Call call) {
        CHECKS.dueAll(name + " changes nothing", Looks.behind(state.maker, call).equals(state.untouched));
    }

    private static void ofTheText(State state) {
        for (int n : new int[] {0, 9, -1, MIN, MAX}) {
            refused(state, "2 write " + n, BAD, x -> x.write(n, 'N'));
        }
    }

    private static void ofTheDay(State state) {
        for (int what : new int[] {-1, 9, MIN, MAX}) {
            refused(state, "6 about " + what, BAD, x -> x.about(what));
        }
        for (int person : state.nobodies()) {
            refused(state, "7 where of " + person, UNKNOWN, x -> x.where(person, 0));
            refused(state, "7 where of " + person + ", hour 6", UNKNOWN, x -> x.where(person, 6));
            refused(state, "9 told of " + person, UNKNOWN, x -> x.told(person, 0));
            refused(state, "10 left of " + person, UNKNOWN, x -> x.left(person, 0));
        }
        for (int news : state.noNews()) {
            refused(state, "8 news " + news, UNKNOWN, x -> x.news(news, 0));
            refused(state, "8 news " + news + ", what 5", UNKNOWN, x -> x.news(news, 5));
            refused(state, "9 told, news " + news, UNKNOWN, x -> x.told(0, news));
            refused(state, "10 left, news " + news, UNKNOWN, x -> x.left(0, news));
        }
    }

    private static void ofPlaces(State state) {
        for (int hour : new int[] {-1, 6, MIN, MAX}) {
            refused(state, "7 where in " + hour, BAD, x -> x.where(0, hour));
        }
        for (int what : new int[] {-1, 5, MIN, MAX}) {
            refused(state, "8 news, what " + what, BAD, x -> x.news(0, what));
        }
    }

    private static void ofActs(State state) {
        for (int person : state.nobodies()) {
            refused(state, "11 may of " + person, UNKNOWN, x -> x.may(person, 0));
            refused(state, "12 tell of " + person, UNKNOWN, x -> x.tell(person, 0));
        }
        for (int news : state.noNews()) {
            refused(state, "11 may, news " + news, UNKNOWN, x -> x.may(0, news));
            refused(state, "12 tell, news " + news, UNKNOWN, x -> x.tell(0, news));
            refused(state, "15 judge, news " + news, UNKNOWN, x -> x.judge(news, 1, 0));
            refused(state, "15 judge, news " + news + ", n 0", UNKNOWN, x -> x.judge(news, 0, 0));
            refused(state, "15 judge, news " + news + ", row -1", UNKNOWN, x -> x.judge(news, 1, -1));
        }
    }

    private static void ofSlots(State state) {
        for (int slot : new int[] {-1, 2, 32, MIN, MAX}) {
            refused(state, "25 keep " + slot, UNKNOWN, x -> x.keep(slot));
            refused(state, "26 again " + slot, UNKNOWN, x -> x.again(slot));
        }
    }

    private static void ofOneNews(State state) {
        for (int news : state.noNews()) {
            refused(state, "16 fewest, news " + news, UNKNOWN, x -> x.fewest(news, 0));
            refused(state, "16 fewest, news " + news + ", people -1", UNKNOWN, x -> x.fewest(news, -1));
            refused(state, "17 planAt, news " + news, UNKNOWN, x -> x.planAt(news, 0, 0));
            refused(state, "17 planAt, news " + news + ", people -1", UNKNOWN, x -> x.planAt(news, -1, 0));
            refused(state, "17 planAt, news " + news + ", i -1", UNKNOWN, x -> x.planAt(news, 0, -1));
            refused(state, "18 most, news " + news, UNKNOWN, x -> x.most(news));
            refused(state, "19 spent, news " + news, UNKNOWN, x -> x.spent(news, 0));
            refused(state, "20 duel, news " + news, UNKNOWN, x -> x.duel(news, 0));
            refused(state, "24 rows, news " + news, UNKNOWN, x -> x.rows(news));
        }
        for (int person : state.nobodies()) {
            refused(state, "19 spent of " + person, UNKNOWN, x -> x.spent(0, person));
            refused(state, "20 duel of " + person, UNKNOWN, x -> x.duel(0, person));
        }
        for (int people : new int[] {-1, 1 << state.people, 64, MIN, MAX}) {
            refused(state, "16 fewest of " + people, BAD, x -> x.fewest(0, people));
            refused(state, "17 planAt of " + people, BAD, x -> x.planAt(0, people, 0));
            refused(state, "17 planAt of " + people + ", i 6", BAD, x -> x.planAt(0, people, 6));
        }
        for (int n : new int[] {0, 5, -1, MIN, MAX}) {
            refused(state, "15 judge n " + n, BAD, x -> x.judge(0, n, 0));
        }
        int tooLong = 1;
        for (int n = 1; n <= 4; n++) {
            tooLong *= 10;
            int row = tooLong;
            int figures = n;
            refused(state, "15 judge row " + row, BAD, x -> x.judge(0, figures, row));
            refused(state, "15 judge row -1 of " + n, BAD, x -> x.judge(0, figures, -1));
            refused(state, "15 judge row MIN of " + n, BAD, x -> x.judge(0, figures, MIN));
            refused(state, "15 judge row MAX of " + n, BAD, x -> x.judge(0, figures, MAX));
        }
    }

    private static void ofChances(State state) {
        for (int news : state.noNews()) {
            refused(state, "21 chance, news " + news, UNKNOWN, x -> x.chance(news, 0, 0, 5, true));
            refused(state, "21 chance, news " + news + ", x 11", UNKNOWN, x -> x.chance(news, 0, 0, 11, true));
        }
        for (int person : state.nobodies()) {
            refused(state, "21 chance of " + person, UNKNOWN, x -> x.chance(0, person, 0, 5, true));
            refused(state, "21 chance of " + person + ", x -1", UNKNOWN, x -> x.chance(0, person, 0, -1, true));
        }
        for (int place : new int[] {-1, 3, -9, MIN, MAX}) {
            refused(state, "21 chance at " + place, UNKNOWN, x -> x.chance(0, 0, place, 5, false));
            refused(state, "21 chance at " + place + ", x 11", UNKNOWN, x -> x.chance(0, 0, place, 11, false));
        }
        for (int tenths : new int[] {-1, 11, MIN, MAX}) {
            refused(state, "21 chance by " + tenths, BAD, x -> x.chance(0, 1, 0, tenths, true));
        }
    }

    private static void ofSights(State state) {
        for (int person : state.nobodies()) {
            refused(state, "22 sight of " + person, UNKNOWN, x -> x.sight(0, person, true));
            refused(state, "22 sight of " + person + ", hour 6", UNKNOWN, x -> x.sight(6, person, false));
        }
        for (int hour : new int[] {-1, 6, MIN, MAX}) {
            refused(state, "22 sight in " + hour, BAD, x -> x.sight(hour, 0, true));
        }
    }

    private static void asking(State state) {
        unchanged(state, "4 fault", x -> x.fault());
        unchanged(state, "7 where", x -> x.where(0, 5));
        unchanged(state, "8 news", x -> x.news(0, 3));
        unchanged(state, "9 told", x -> x.told(0, 0));
        unchanged(state, "10 left", x -> x.left(0, 0));
        unchanged(state, "21 chance", x -> x.chance(0, 1, 0, 5, true));
        for (int what = 0; what <= 8; what++) {
            int asked = what;
            unchanged(state, "6 about " + what, x -> x.about(asked));
        }
        for (int i = 0; i < state.news; i++) {
            int news = i;
            unchanged(state, "11 may", x -> x.may(0, news));
            unchanged(state, "15 judge", x -> x.judge(news, 4, 1090));
            unchanged(state, "16 fewest", x -> x.fewest(news, 3));
            unchanged(state, "17 planAt", x -> x.planAt(news, 3, 0));
            unchanged(state, "18 most", x -> x.most(news));
            unchanged(state, "19 spent", x -> x.spent(news, 3));
            unchanged(state, "20 duel", x -> x.duel(news, 3));
            unchanged(state, "24 rows", x -> x.rows(news));
        }
    }

    /** "LATE: LAW is not 0" is told last. */
    private static void ofPlansByOtherLaws(State state) {
        for (int i = 0; i < state.news; i++) {
            int news = i;
            refused(state, "16 fewest", LATE, x -> x.fewest(news, 0));
            refused(state, "16 fewest of all", LATE, x -> x.fewest(news, 15));
            refused(state, "17 planAt", LATE, x -> x.planAt(news, 0, 0));
            refused(state, "17 planAt -1", LATE, x -> x.planAt(news, 0, -1));
            refused(state, "17 planAt 6", LATE, x -> x.planAt(news, 15, 6));
            refused(state, "18 most", LATE, x -> x.most(news));
            refused(state, "19 spent", LATE, x -> x.spent(news, 3));
            refused(state, "19 spent of one that knows it", LATE, x -> x.spent(news, 1));
            refused(state, "20 duel", LATE, x -> x.duel(news, 3));
            refused(state, "20 duel of one that knows it", LATE, x -> x.duel(news, 1));
        }
    }

    private static void whatIsFull(State state) {
        CHECKS.due("full: bytes", state.maker.make().about(8), 71);
        CHECKS.due("full: acts", state.maker.make().about(4), 16);
        for (int n = 2; n <= 8; n++) {
            int bytes = n;
            refused(state, "2 write " + n + " to 71", FULL, x -> x.write(bytes, -1L));
        }
        State longest = new State("72 bytes", RefusalTest::longest);
        for (int n = 1; n <= 8; n++) {
            int bytes = n;
            refused(longest, "2 write " + n + " to 72", FULL, x -> x.write(bytes, -1L));
        }
        refused(longest, "2 BAD is told ahead of FULL", BAD, x -> x.write(9, 0));
        refused(longest, "2 BAD is told ahead of FULL", BAD, x -> x.write(0, 0));
        refused(longest, "5 day of a fault", LATE, x -> x.day());
        refused(state, "13 hour in hour 5", LATE, x -> x.hour());
        refused(state, "12 tell what is told nine times", LATE, x -> x.tell(0, 0));
        for (boolean knew : new boolean[] {true, false}) {
            refused(state, "22 a ninth sight", FULL, x -> x.sight(0, 0, knew));
            refused(state, "22 UNKNOWN is told ahead of FULL", UNKNOWN, x -> x.sight(0, 6, knew));
            refused(state, "22 BAD is told ahead of FULL", BAD, x -> x.sight(6, 0, knew));
            refused(state, "22 UNKNOWN is told ahead of both", UNKNOWN, x -> x.sight(-1, -1, knew));
        }
    }

    private static ToldNineTimes longest() {
        ToldNineTimes x = full();
        x.write(1, 'N');
        return x;
    }

    private static void whatIsLate() {
        State fresh = new State("new", ToldNineTimes::new);
        refused(fresh, "5 day of no text", LATE, x -> x.day());
        refused(fresh, "14 undo", LATE, x -> x.undo());
        refused(fresh, "26 again 0", LATE, x -> x.again(0));
        refused(fresh, "26 again 1", LATE, x -> x.again(1));
        for (int law = 0; law <= 2; law++) {
            int asked = law;
            State busy = new State("law " + law, () -> busy(asked));
            refused(busy, "10 left of one that does not know it", LATE, x -> x.left(3, 0));
            refused(busy, "12 tell of one that does not know it", LATE, x -> x.tell(3, 0));
            refused(busy, "12 tell of one that is nowhere", LATE, x -> x.tell(2, 0));
            refused(busy, "12 tell of one that is alone", LATE, x -> x.tell(3, 1));
            refused(busy, "26 again 0", LATE, x -> x.again(0));
            State spoilt = new State("a fault, law " + law, () -> spoilt(asked));
            refused(spoilt, "5 day of a fault", LATE, x -> x.day());
            State used = new State("all undone, law " + law, () -> undone(asked));
            refused(used, "14 undo", LATE, x -> x.undo());
        }
        State once = new State("law 1", () -> busy(1));
        refused(once, "12 tell a second time", LATE, x -> x.tell(1, 0));
        State thrice = new State("law 2", RefusalTest::toldThrice);
        refused(thrice, "12 tell a fourth time at a place", LATE, x -> x.tell(1, 0));
    }

    /** Another day's beginning, with its fault at its very end. */
    private static ToldNineTimes spoilt(int law) {
        ToldNineTimes x = busy(law);
        x.wipe();
        Checks.writeText(x, "D2P222222P111111P000000P222222P111111N010234N31N52/");
        return x;
    }

    private static ToldNineTimes undone(int law) {
        ToldNineTimes x = busy(law);
        for (int i = 0; i < 4; i++) {
            x.undo();
        }
        return x;
    }

    private static ToldNineTimes toldThrice() {
        ToldNineTimes x = busy(2);
        x.tell(0, 0);
        return x;
    }
}
