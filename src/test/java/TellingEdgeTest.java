/** The edges of TELLINGS, LAWS, HALVES, ACTS, LEFT and slots: the terms, promises 9 to 15, 25 and 26. */
public final class TellingEdgeTest {
    private static final Checks CHECKS = new Checks();
    private static final int UNKNOWN = ToldNineTimes.UNKNOWN, BAD = ToldNineTimes.BAD, LATE = ToldNineTimes.LATE;
    private static final int NONE = ToldNineTimes.NONE;
    private static final String TWO = "P000000P000000";
    private static final String SIX = "P000000P000000P000000P000000P000000P000000";

    public static void main(String[] args) {
        mustKnowIt();
        beAtAPlace();
        withAnotherOneThere();
        toldLessOftenThanItMayBe();
        toldByAllInAll();
        eachNewsByItself();
        nobodyTellsTwice();
        lawOneAndWhatIsLeft();
        threeTimesAtAPlace();
        nineTimesByLawTwo();
        lawZeroHasNoSuchBounds();
        allThatAreThere();
        howManyKnowItThatDidNot();
        halvesNeedBothAndNewsTwo();
        halvesAtFirst();
        halvesAtOnce();
        halvesAreNoTelling();
        halvesAreOneWay();
        toldByEach();
        leftByWhatOneKnows();
        fiveHours();
        noActs();
        sixteenActs();
        seventeenActs();
        thirtyTwoActs();
        undoneByEach();
        undoneHalves();
        undoneLaws();
        undoneAndActedAgain();
        judgedNumbers();
        judgedRowsFromEnd();
        judgedFigures();
        judgedHours();
        judgedToTheEdgeOfLaws();
        judgedHalves();
        twoSlots();
        slotsKeepOnlyThat();
        slotsAreKeptAsTheyWere();
        slotsOfNothing();
        CHECKS.end();
    }

    private static void due(String call, long got, long want) {
        CHECKS.due(call, got, want);
    }

    /** may and tell must say the same. */
    private static void mayNot(String why, ToldNineTimes x, int person, int news) {
        due("11 " + why, x.may(person, news), 0);
        due("12 " + why, x.tell(person, news), LATE);
    }

    private static void tells(String why, ToldNineTimes x, int person, int news, int fresh) {
        due("11 " + why, x.may(person, news), 1);
        due("12 " + why, x.tell(person, news), fresh);
    }

    // ---- TELLINGS

    private static void mustKnowIt() {
        ToldNineTimes x = Checks.on("D0" + TWO + "N910N911");
        mayNot("it must know it", x, 1, 0);
        mayNot("it must know it", x, 0, 1);
        tells("it knows it", x, 0, 0, 1);
        tells("it knows it now", x, 1, 0, 0);
        mayNot("of another news it knows nothing", x, 0, 1);
    }

    private static void beAtAPlace() {
        ToldNineTimes x = Checks.on("D0P-0----P-0----N9101");
        mayNot("two that are nowhere are not together", x, 0, 0);
        x.hour();
        tells("at a place", x, 0, 0, 0);
        x.hour();
        mayNot("nowhere again", x, 1, 0);
        Checks.remake(x, "D0P-----2P-----2N910");
        Checks.hours(x, 5);
        tells("at place 2 in hour 5", x, 0, 0, 1);
    }

    private static void withAnotherOneThere() {
        ToldNineTimes x = Checks.on("D0P012---P021---P-1----N9102");
        tells("with one other", x, 0, 0, 1);
        mayNot("nobody else, as one is nowhere", x, 2, 0);
        x.hour();
        tells("with one other that knows it", x, 0, 0, 0);
        mayNot("alone, though others are elsewhere", x, 1, 0);
        x.hour();
        mayNot("alone at place 2", x, 0, 0);
        mayNot("alone at place 1", x, 1, 0);
        Checks.remake(x, "D0P000000N910");
        mayNot("nobody else in the day", x, 0, 0);
    }

    private static void toldLessOftenThanItMayBe() {
        for (int limit = 0; limit <= 9; limit++) {
            ToldNineTimes x = Checks.on("D0" + TWO + "N" + limit + "10");
            for (int i = 0; i < limit; i++) {
                tells("told " + i + " times of " + limit, x, 0, 0, i == 0 ? 1 : 0);
            }
            mayNot("told " + limit + " times of " + limit, x, 0, 0);
            due("8 how often it was told", x.news(0, 2), limit);
            due("10 nothing is left", x.left(0, 0), 0);
            x.hour();
            mayNot("nor in another hour", x, 0, 0);
        }
    }

    private static void toldByAllInAll() {
        ToldNineTimes x = Checks.on("D0P000000P000000P111111P111111N3102");
        tells("at one place", x, 0, 0, 1);
        tells("at another one", x, 2, 0, 1);
        x.hour();
        tells("in another hour", x, 3, 0, 0);
        mayNot("told in all three times", x, 0, 0);
        mayNot("told in all three times", x, 1, 0);
        x.undo();
        tells("one is left again", x, 1, 0, 0);
    }

    private static void eachNewsByItself() {
        ToldNineTimes x = Checks.on("D0" + TWO + "N110N110N010");
        tells("news 0", x, 0, 0, 1);
        mayNot("news 0 is dead", x, 0, 0);
        tells("news 1 is not", x, 0, 1, 1);
        mayNot("news 1 is dead", x, 1, 1);
        mayNot("news 2 always was", x, 0, 2);
        due("6 tellings of all news", x.about(5), 2);
    }

    // ---- LAWS

    private static void nobodyTellsTwice() {
        ToldNineTimes x = Checks.on("D1" + SIX + "N910N910");
        for (int person = 0; person < 6; person++) {
            tells("law 1: once", x, person, 0, person == 0 ? 5 : 0);
            mayNot("law 1: twice", x, person, 0);
        }
        due("8 six of nine", x.news(0, 2), 6);
        tells("law 1: another news", x, 0, 1, 5);
        Checks.hours(x, 5);
        for (int person = 0; person < 6; person++) {
            mayNot("law 1: in hour 5 neither", x, person, 0);
            due("9 once", x.told(person, 0), 1);
        }
    }

    private static void lawOneAndWhatIsLeft() {
        ToldNineTimes x = Checks.on("D1" + SIX + "N210");
        tells("law 1: one of two", x, 0, 0, 5);
        tells("law 1: two of two", x, 1, 0, 0);
        mayNot("law 1: three of two", x, 2, 0);
    }

    private static void threeTimesAtAPlace() {
        ToldNineTimes x = Checks.on("D2P001000P001000P222222P222222N9102N910");
        tells("law 2: first", x, 0, 0, 1);
        tells("law 2: second", x, 1, 0, 0);
        x.hour();
        tells("law 2: third, in another hour", x, 0, 0, 0);
        mayNot("law 2: fourth", x, 0, 0);
        mayNot("law 2: fourth by another one", x, 1, 0);
        tells("law 2: another place", x, 2, 0, 1);
        tells("law 2: another news", x, 0, 1, 1);
        x.hour();
        tells("law 2: place 1", x, 0, 0, 0);
        x.hour();
        mayNot("law 2: at place 0 again", x, 0, 0);
        tells("law 2: by one and the same at place 2", x, 2, 0, 0);
        tells("law 2: by one and the same at place 2", x, 2, 0, 0);
        mayNot("law 2: fourth at place 2", x, 2, 0);
    }

    private static void nineTimesByLawTwo() {
        ToldNineTimes x = Checks.on("D2P012012P012012N910N810");
        for (int place = 0; place < 3; place++) {
            for (int i = 0; i < 3; i++) {
                tells("law 2: place " + place, x, 0, 0, place == 0 && i == 0 ? 1 : 0);
                due("12 of eight", x.tell(0, 1), place * 3 + i == 8 ? LATE : place == 0 && i == 0 ? 1 : 0);
            }
            mayNot("law 2: no fourth", x, 1, 0);
            x.hour();
        }
        due("8 nine times", x.news(0, 2), 9);
        due("8 eight times", x.news(1, 2), 8);
    }

    private static void lawZeroHasNoSuchBounds() {
        ToldNineTimes x = Checks.on("D0" + TWO + "N910");
        for (int i = 0; i < 9; i++) {
            tells("law 0: by one, at one place, " + i, x, 0, 0, i == 0 ? 1 : 0);
        }
        due("9 nine times", x.told(0, 0), 9);
    }

    // ---- who knows it then

    private static void allThatAreThere() {
        ToldNineTimes x = Checks.on("D0P000000P111111P000000P-00000P222222P000000N915");
        due("12 those at place 0", x.tell(5, 0), 2);
        due("8 not those elsewhere or nowhere", x.news(0, 3), 1 | 4 | 32);
        x.hour();
        due("12 one came", x.tell(0, 0), 1);
        due("8 it knows it, too", x.news(0, 3), 1 | 4 | 8 | 32);
        due("8 at first", x.news(0, 4), 32);
    }

    private static void howManyKnowItThatDidNot() {
        String[] firsts = {"0", "01", "012", "0123", "01234", "012345"};
        for (int i = 0; i < 6; i++) {
            ToldNineTimes x = Checks.on("D0" + SIX + "N91" + firsts[i]);
            due("12 that did not", x.tell(0, 0), 5 - i);
            due("12 none any more", x.tell(5, 0), 0);
        }
    }

    // ---- HALVES

    private static void halvesNeedBothAndNewsTwo() {
        ToldNineTimes x = Checks.on("D0" + TWO + "N9101N9101");
        due("halves: no news 2", x.news(2, 3), UNKNOWN);
        due("halves: no news 2", x.may(0, 2), UNKNOWN);
        due("halves: no worth", x.about(6), 4);
        Checks.remake(x, "D0" + TWO + "N910N911N91");
        due("halves: one each is not both", x.news(2, 3), 0);
        mayNot("halves: one each is not both", x, 0, 2);
        Checks.remake(x, "D0" + TWO + "N91N9101N91");
        due("halves: news 1 alone", x.news(2, 3), 0);
        Checks.remake(x, "D0" + TWO + "N9101N91N91");
        due("halves: news 0 alone", x.news(2, 3), 0);
    }

    private static void halvesAtFirst() {
        for (int person = 0; person < 6; person++) {
            ToldNineTimes x = Checks.on("D0" + SIX + "N91" + person + "N91" + person + "N91");
            due("8 halves at first", x.news(2, 4), 1 << person);
            due("8 halves when the day is made", x.news(2, 3), 1 << person);
            due("10 it knows it", x.left(person, 2), 9);
            due("10 another one does not", x.left((person + 1) % 6, 2), LATE);
        }
        ToldNineTimes x = Checks.on("D0" + SIX + "N91012N91123N914");
        due("8 with those that were told", x.news(2, 4), 2 | 4 | 16);
        x.tell(1, 2);
        due("8 at first stays", x.news(2, 4), 2 | 4 | 16);
        Checks.remake(x, "D0N91N91P000000P000000N91");
        due("8 halves of nobody", x.news(2, 4), 0);
        Checks.remake(x, "D0" + TWO + "N910N910N010");
        due("8 told twice over", x.news(2, 4), 1);
    }

    private static void halvesAtOnce() {
        ToldNineTimes x = Checks.on("D0" + SIX + "N910N9112N91");
        due("12 news 0 to all", x.tell(0, 0), 5);
        due("8 those that knew news 1", x.news(2, 3), 2 | 4);
        tells("halves: it may be told at once", x, 2, 2, 4);
        Checks.remake(x, "D0" + SIX + "N91345N912N91");
        due("12 news 1 to all", x.tell(2, 1), 5);
        due("8 those that knew news 0", x.news(2, 3), 8 | 16 | 32);
        Checks.remake(x, "D1" + TWO + "N910N911N91");
        x.tell(0, 0);
        due("halves by law 1", x.news(2, 3), 2);
        Checks.remake(x, "D2" + TWO + "N910N911N91");
        x.tell(0, 0);
        due("halves by law 2", x.news(2, 3), 2);
    }

    private static void halvesAreNoTelling() {
        ToldNineTimes x = Checks.on("D1" + TWO + "N910N911N93");
        due("12 how many know news 0", x.tell(0, 0), 1);
        due("6 one telling", x.about(5), 1);
        due("6 one act", x.about(4), 1);
        due("8 of news 2 none", x.news(2, 2), 0);
        due("9 of news 2 none", x.told(0, 2), 0);
        due("10 all is left", x.left(1, 2), 9);
        due("6 worth of it", x.about(6), 1 + 1 + 1 + 3);
        tells("law 1: nobody told news 2", x, 1, 2, 1);
        Checks.remake(x, "D0" + TWO + "N910N911N01");
        x.tell(0, 0);
        due("halves: known, though it may not be told", x.news(2, 3), 2);
        due("10 nothing is left", x.left(1, 2), 0);
        mayNot("halves: it may not be told", x, 1, 2);
    }

    private static void halvesAreOneWay() {
        ToldNineTimes x = Checks.on("D0" + TWO + "N91N91N9101");
        due("halves: not back to news 0", x.news(0, 3), 0);
        due("halves: not back to news 1", x.news(1, 3), 0);
        Checks.remake(x, "D0" + TWO + "N910N91N9101");
        due("halves: news 0 and 2 do not make 1", x.news(1, 3), 0);
    }

    // ---- promises 9 and 10

    private static void toldByEach() {
        ToldNineTimes x = Checks.on("D0" + SIX + "N91012345N91012345N91012345");
        for (int person = 0; person < 6; person++) {
            for (int news = 0; news < 3; news++) {
                due("9 not yet", x.told(person, news), 0);
                x.tell(person, news);
                due("9 once", x.told(person, news), 1);
            }
        }
        due("6 eighteen", x.about(5), 18);
        due("9 person -1", x.told(-1, 0), UNKNOWN);
        due("9 person 6", x.told(6, 0), UNKNOWN);
        due("9 news -1", x.told(0, -1), UNKNOWN);
        due("9 news 3", x.told(0, 3), UNKNOWN);
    }

    private static void leftByWhatOneKnows() {
        ToldNineTimes x = Checks.on("D0P000000P000000P100000P111111N9103");
        for (int i = 0; i < 8; i++) {
            x.tell(0, 0);
        }
        due("10 one that was at eight", x.left(1, 0), 1);
        due("10 one that was at none, but knows it", x.left(3, 0), 9);
        due("10 one that does not know it", x.left(2, 0), LATE);
        x.hour();
        x.tell(0, 0);
        due("10 one that told all", x.left(0, 0), 0);
        due("10 one that was at the last one only", x.left(2, 0), 8);
        due("10 one that still believes in all", x.left(3, 0), 9);
        mayNot("but nothing is left", x, 2, 0);
        due("14 the last one is undone", x.undo(), 9);
        due("10 it does not know it any more", x.left(2, 0), LATE);
        due("10 one is left again", x.left(0, 0), 1);
        due("10 person -1", x.left(-1, 0), UNKNOWN);
        due("10 person 4", x.left(4, 0), UNKNOWN);
        due("10 news 1", x.left(2, 1), UNKNOWN);
    }

    // ---- HOURS and ACTS

    private static void fiveHours() {
        ToldNineTimes x = Checks.on("D0P000000N91");
        for (int hour = 1; hour <= 5; hour++) {
            due("13 the hour", x.hour(), hour);
            due("6 the hour", x.about(3), hour);
        }
        due("13 it is hour 5", x.hour(), LATE);
        due("6 it is hour 5 still", x.about(3), 5);
        due("6 five acts", x.about(4), 5);
        due("14 undone", x.undo(), 4);
        due("13 again", x.hour(), 5);
    }

    private static void noActs() {
        ToldNineTimes x = Checks.on("D0" + TWO + "N910");
        due("14 none", x.undo(), LATE);
        x.tell(1, 0);
        due("14 what was refused is none", x.undo(), LATE);
        x.tell(0, 0);
        due("14 one", x.undo(), 0);
        due("14 none again", x.undo(), LATE);
        Checks.hours(x, 5);
        x.hour();
        due("14 an hour that was refused is none", x.undo(), 4);
        due("6 so it is hour 4", x.about(3), 4);
    }

    private static ToldNineTimes acted(int acts) {
        ToldNineTimes x = Checks.on("D0" + TWO + "N9101N9101N9101");
        for (int i = 0; i < acts; i++) {
            if (i < 27) {
                x.tell(i % 2, i / 9);
            } else {
                x.hour();
            }
        }
        return x;
    }

    private static void undoneToTheEnd(ToldNineTimes x, int acts) {
        for (int left = acts - 1; left >= 0; left--) {
            due("14 how many are left", x.undo(), left);
            due("6 acts", x.about(4), left);
        }
        due("14 no more", x.undo(), LATE);
    }

    private static void sixteenActs() {
        for (int acts = 1; acts <= 16; acts++) {
            ToldNineTimes x = acted(acts);
            due("6 acts", x.about(4), acts);
            undoneToTheEnd(x, acts);
            due("14 none is forgotten", x.about(5), 0);
        }
    }

    private static void seventeenActs() {
        ToldNineTimes x = acted(17);
        due("6 sixteen at most", x.about(4), 16);
        undoneToTheEnd(x, 16);
        due("14 the first one is forgotten", x.about(5), 1);
        due("14 it was told by 0", x.told(0, 0), 1);
        Checks.remake(x, "D0" + TWO + "N9101N9101N9101");
        x.hour();
        for (int i = 0; i < 15; i++) {
            x.tell(1, i / 9);
        }
        due("6 sixteen", x.about(4), 16);
        due("13 a seventeenth: an hour", x.hour(), 2);
        undoneToTheEnd(x, 16);
        due("14 the first hour is forgotten", x.about(3), 1);
        due("14 no telling is", x.about(5), 0);
    }

    private static void thirtyTwoActs() {
        ToldNineTimes x = acted(32);
        due("6 all hours", x.about(3), 5);
        due("6 all tellings", x.about(5), 27);
        due("6 sixteen acts", x.about(4), 16);
        undoneToTheEnd(x, 16);
        due("14 no hour", x.about(3), 0);
        due("14 the first sixteen tellings stay", x.about(5), 16);
        due("14 of news 1 seven", x.news(1, 2), 7);
        due("14 acts go on", x.tell(0, 1), 0);
        due("6 one act", x.about(4), 1);
    }

    private static void undoneByEach() {
        for (int person = 0; person < 6; person++) {
            for (int news = 0; news < 3; news++) {
                String knowing = "N91" + person;
                ToldNineTimes x = Checks.on("D0" + SIX + knowing + (news == 2 ? "N91" : knowing) + knowing);
                due("12 told to five", x.tell(person, news), 5);
                due("14 undone", x.undo(), 0);
                due("14 who knows it", x.news(news, 3), 1 << person);
                due("9 told", x.told(person, news), 0);
                due("10 left", x.left(person, news), 9);
                due("10 left of another one", x.left((person + 1) % 6, news), LATE);
                due("8 how often", x.news(news, 2), 0);
            }
        }
    }

    private static void undoneHalves() {
        ToldNineTimes x = Checks.on("D0" + SIX + "N910N9112N913");
        x.tell(0, 0);
        x.tell(1, 1);
        due("8 all", x.news(2, 3), 63);
        x.undo();
        due("14 halves that were there", x.news(2, 3), 2 | 4 | 8);
        due("14 who knows news 1", x.news(1, 3), 2 | 4);
        due("14 who knows news 0", x.news(0, 3), 63);
        x.undo();
        due("14 none but the one at first", x.news(2, 3), 8);
        due("14 who knows news 0", x.news(0, 3), 1);
        Checks.remake(x, "D0" + TWO + "N91N911N91");
        x.tell(1, 1);
        x.undo();
        due("14 nobody came to know news 0", x.news(0, 3), 0);
        due("14 who knows news 1", x.news(1, 3), 2);
    }

    private static void undoneLaws() {
        ToldNineTimes x = Checks.on("D1" + TWO + "N910");
        x.tell(0, 0);
        x.hour();
        x.undo();
        mayNot("law 1: not when an hour is undone", x, 0, 0);
        x.undo();
        tells("law 1: when it is undone", x, 0, 0, 1);
        Checks.remake(x, "D2P011111P011111N910");
        for (int i = 0; i < 3; i++) {
            x.tell(0, 0);
        }
        x.hour();
        x.tell(0, 0);
        x.undo();
        x.undo();
        mayNot("law 2: three at place 0 still", x, 1, 0);
        x.undo();
        tells("law 2: two at place 0", x, 1, 0, 0);
        mayNot("law 2: three again", x, 1, 0);
    }

    private static void undoneAndActedAgain() {
        ToldNineTimes x = acted(16);
        due("14 one less", x.undo(), 15);
        x.hour();
        due("6 sixteen again", x.about(4), 16);
        due("14 the hour", x.undo(), 15);
        due("6 hour 0", x.about(3), 0);
        undoneToTheEnd(x, 15);
        due("14 none was forgotten", x.about(5), 0);
    }

    // ---- promise 15

    private static void judgedNumbers() {
        ToldNineTimes x = Checks.on("D0" + TWO + "N910");
        int[] longest = {0, 9, 99, 999, 9999};
        for (int n = 1; n <= 4; n++) {
            due("15 row 0 of " + n, x.judge(0, n, 0), NONE);
            due("15 the longest row of " + n, x.judge(0, n, longest[n]), NONE);
            due("15 one more than that", x.judge(0, n, longest[n] + 1), BAD);
            due("15 below 0", x.judge(0, n, -1), BAD);
        }
        due("15 n 0", x.judge(0, 0, 0), BAD);
        due("15 n 5", x.judge(0, 5, 0), BAD);
        due("15 n 5, row of five", x.judge(0, 5, 10000), BAD);
        due("15 news -1", x.judge(-1, 1, 0), UNKNOWN);
        due("15 news 1", x.judge(1, 1, 0), UNKNOWN);
    }

    private static void judgedRowsFromEnd() {
        ToldNineTimes x = Checks.on("D0" + TWO + "N910");
        due("15 none at place 0", x.judge(0, 4, 2000), 0);
        due("15 none at place 1", x.judge(0, 4, 200), 1);
        due("15 none at place 2", x.judge(0, 4, 20), 2);
        due("15 none at place 3", x.judge(0, 4, 2), 3);
        due("15 the first one of two", x.judge(0, 4, 202), 1);
        due("15 all may", x.judge(0, 4, 111), NONE);
        due("15 one that learns it only then", x.judge(0, 4, 1000), 0);
    }

    private static void judgedFigures() {
        ToldNineTimes x = Checks.on("D0" + SIX + "N91012345");
        for (int figure = 0; figure <= 9; figure++) {
            boolean may = figure < 6 || figure == 9;
            due("15 figure " + figure, x.judge(0, 1, figure), may ? NONE : 0);
        }
        Checks.remake(x, "D0" + TWO + "N9101");
        for (int figure = 0; figure <= 9; figure++) {
            boolean may = figure < 2 || figure == 9;
            due("15 figure " + figure + " of two", x.judge(0, 1, figure), may ? NONE : 0);
        }
        Checks.remake(x, "D0N91");
        due("15 nobody is there", x.judge(0, 1, 0), 0);
        due("15 but hours", x.judge(0, 4, 9999), NONE);
    }

    private static void judgedHours() {
        ToldNineTimes x = Checks.on("D0P-----0P-----0N910");
        int[] places = {NONE, NONE, 3, 2, 1, 0};
        for (int hour = 0; hour <= 5; hour++) {
            due("15 hours from hour " + hour, x.judge(0, 4, 9999), places[hour]);
            x.hour();
        }
        due("15 a telling in hour 5", x.judge(0, 1, 0), NONE);
        due("15 and no hour behind it", x.judge(0, 2, 9), 1);
        x.undo();
        due("15 an hour, then a telling", x.judge(0, 2, 90), NONE);
        due("15 a telling too early", x.judge(0, 2, 9), 0);
        due("15 the hour is as it was", x.about(3), 4);
    }

    private static void judgedToTheEdgeOfLaws() {
        ToldNineTimes x = Checks.on("D0" + TWO + "N310");
        due("15 three are left", x.judge(0, 4, 0), 3);
        x.tell(0, 0);
        due("15 two are left", x.judge(0, 4, 101), 2);
        Checks.remake(x, "D1" + SIX + "N910");
        due("15 law 1: each once", x.judge(0, 4, 123), NONE);
        due("15 law 1: one twice", x.judge(0, 4, 121), 3);
        x.tell(0, 0);
        due("15 law 1: told already", x.judge(0, 1, 0), 0);
        Checks.remake(x, "D2P000001P000001N910");
        due("15 law 2: three", x.judge(0, 3, 0), NONE);
        due("15 law 2: four", x.judge(0, 4, 0), 3);
        x.tell(0, 0);
        due("15 law 2: one was told", x.judge(0, 4, 9019), NONE);
        due("15 law 2: in another hour, too", x.judge(0, 4, 9010), 3);
        Checks.hours(x, 4);
        due("15 law 2: at another place", x.judge(0, 4, 1901), NONE);
    }

    private static void judgedHalves() {
        ToldNineTimes x = Checks.on("D0" + TWO + "N910N911N91");
        due("15 nobody has both", x.judge(2, 1, 1), 0);
        due("15 news 0 told", x.judge(0, 2, 1), NONE);
        due("15 that was not for good", x.judge(2, 1, 1), 0);
        due("8 nor was it known", x.news(2, 3), 0);
        x.tell(0, 0);
        due("15 both", x.judge(2, 2, 10), NONE);
    }

    // ---- slots

    private static void twoSlots() {
        ToldNineTimes x = Checks.on("D0" + TWO + "N910");
        int[] want = {UNKNOWN, LATE, LATE, UNKNOWN};
        for (int slot = -1; slot <= 2; slot++) {
            due("26 none were kept, slot " + slot, x.again(slot), want[slot + 1]);
        }
        due("25 slot -1", x.keep(-1), UNKNOWN);
        due("25 slot 2", x.keep(2), UNKNOWN);
        due("25 slot 0", x.keep(0), 0);
        due("26 slot 1 was not", x.again(1), LATE);
        Checks.hours(x, 5);
        due("25 slot 1", x.keep(1), 5);
        due("26 slot 0", x.again(0), 0);
        due("26 slot 1", x.again(1), 5);
        due("26 slot 0 once more", x.again(0), 0);
    }

    private static void slotsKeepOnlyThat() {
        ToldNineTimes x = Checks.on("D0" + TWO + "N910");
        x.sight(0, 0, true);
        x.tell(0, 0);
        due("25 the hour", x.keep(0), 0);
        due("25 acts stay when one keeps", x.about(4), 1);
        x.sight(1, 1, true);
        x.write(1, 'N');
        due("26 the hour", x.again(0), 0);
        due("26 no acts", x.about(4), 0);
        due("26 nothing to undo", x.undo(), LATE);
        due("26 sights are not kept", x.about(7), 2);
        due("26 bytes are not kept", x.about(8), 21);
        x.unsee();
        x.wipe();
        x.again(0);
        due("26 sights do not come back", x.about(7), 0);
        due("26 bytes do not come back", x.about(8), 0);
    }

    private static void slotsAreKeptAsTheyWere() {
        ToldNineTimes x = Checks.on("D2" + TWO + "N910N911N91");
        x.tell(0, 0);
        x.tell(1, 0);
        x.keep(0);
        x.tell(0, 0);
        x.tell(1, 1);
        Checks.hours(x, 3);
        x.tell(0, 2);
        for (int times = 0; times < 2; times++) {
            due("26 the hour", x.again(0), 0);
            due("26 who knows news 1", x.news(1, 3), 2);
            due("26 who knows news 2", x.news(2, 3), 2);
            due("26 tellings", x.about(5), 2);
            due("26 told", x.told(0, 0), 1);
            due("26 left", x.left(1, 0), 7);
            tells("one at this place is left", x, 0, 0, 0);
            mayNot("none at this place is left", x, 0, 0);
            due("6 one act", x.about(4), 1);
        }
        due("14 that one can be undone", x.undo(), 0);
        due("14 no further", x.undo(), LATE);
        x.hour();
        due("25 kept anew", x.keep(0), 1);
        due("26 as it was kept last", x.again(0), 1);
        due("14 what came ahead of it cannot be undone", x.undo(), LATE);
    }

    private static void slotsOfNothing() {
        ToldNineTimes x = new ToldNineTimes();
        x.hour();
        due("25 nobody, nothing, hour 1", x.keep(1), 1);
        x.hour();
        due("26 hour 1", x.again(1), 1);
        due("6 hour 1", x.about(3), 1);
        Checks.remake(x, "D0");
        due("26 gone with the day", x.again(1), LATE);
        due("25 kept in the new day", x.keep(1), 0);
        x.wipe();
        due("5 refused", x.day(), LATE);
        due("26 still kept", x.again(1), 0);
    }
}
