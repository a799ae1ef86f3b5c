/** The edges of plans, duels, chances, sights and rows: the terms, and promises 16 to 24. */
public final class OutlookEdgeTest {
    private static final Checks CHECKS = new Checks();
    private static final int UNKNOWN = ToldNineTimes.UNKNOWN, BAD = ToldNineTimes.BAD, LATE = ToldNineTimes.LATE;
    private static final int FULL = ToldNineTimes.FULL, NONE = ToldNineTimes.NONE;

    /** In hour i persons i and i + 1 meet, up to hour 4. */
    private static final String CHAIN = "P0-----P00----P-00---P--00--P---00-P----0-";
    /** Two at each place, in hour 0 alone. */
    private static final String PAIRS = "P0-----P0-----P1-----P1-----P2-----P2-----";
    /** Two are always at place 0, one always at place 2. */
    private static final String ALWAYS = "P000000P000000P222222";
    private static final String TWO = "P000000P000000";

    public static void main(String[] args) {
        setsOfPeople();
        asOftenAsIsLeft();
        fewestOfWhoKnowsIt();
        toTheEndOfHourFive();
        hoursGoneBy();
        whereItMayBeTold();
        onlyWhatIsNeeded();
        plansFromNowOn();
        firstBySets();
        mostToTheEdge();
        spentByHours();
        spentFromNowOn();
        spentWithoutOne();
        spentAtTwoPlaces();
        duelsOfOneHour();
        duelsUntilHourFive();
        duelsOfAChain();
        duelsByAnotherPlace();
        chancesToTheEdge();
        chancesFromNowOn();
        chancesByWhoKnowsItNow();
        chancesOfOneThatKnowsIt();
        chancesWhateverIsLeft();
        eightSights();
        hoursOfSights();
        sightsOfOneHour();
        everySightCounts();
        unseen();
        sightsThatCannotBe();
        oneThatIsNotThereAnyMore();
        rowsByLimits();
        rowsFromHourZero();
        rowsByAnyLaw();
        rowsFromWhoKnewItAtFirst();
        lawsThatAreNotZero();
        lastOnes();
        CHECKS.end();
    }

    private static void due(String call, long got, long want) {
        CHECKS.due(call, got, want);
    }

    private static int choices(int of, int taken) {
        int choices = 1;
        for (int i = 0; i < taken; i++) {
            choices = choices * (of - i) / (i + 1);
        }
        return choices;
    }

    private static int choicesUpTo(int of, int most) {
        int sum = 0;
        for (int taken = 0; taken <= Math.min(of, most); taken++) {
            sum += choices(of, taken);
        }
        return sum;
    }

    // ---- FEWEST

    private static void setsOfPeople() {
        for (int people = 0; people <= 6; people++) {
            String text = "D0" + "P000000".repeat(people) + "N91" + "012345".substring(0, people);
            ToldNineTimes x = Checks.on(text);
            int all = (1 << people) - 1;
            due("16 nobody of " + people, x.fewest(0, 0), 0);
            due("16 all of " + people, x.fewest(0, all), 0);
            due("16 one more", x.fewest(0, all + 1), BAD);
            due("16 below 0", x.fewest(0, -1), BAD);
            due("17 all of " + people, x.planAt(0, all, 0), 0);
            due("17 one more", x.planAt(0, all + 1, 0), BAD);
            due("17 below 0", x.planAt(0, -1, 0), BAD);
        }
    }

    private static void asOftenAsIsLeft() {
        for (int limit = 0; limit <= 9; limit++) {
            ToldNineTimes x = Checks.on("D0" + CHAIN + "N" + limit + "10");
            for (int person = 0; person < 6; person++) {
                int want = person <= limit ? person : NONE;
                due("16 " + limit + " left, person " + person, x.fewest(0, 1 << person), want);
                due("16 all up to it", x.fewest(0, (2 << person) - 1), want);
            }
            due("18 " + limit + " left", x.most(0), Math.min(limit, 5) + 1);
        }
        ToldNineTimes x = Checks.on("D0" + CHAIN + "N510");
        x.tell(0, 0);
        due("16 one was told, four are needed", x.fewest(0, 63), 4);
        x.tell(0, 0);
        due("16 two were told, four are needed", x.fewest(0, 63), NONE);
        due("17 so there is no plan", x.planAt(0, 63, 0), NONE);
    }

    private static void fewestOfWhoKnowsIt() {
        ToldNineTimes x = Checks.on("D0" + TWO + "N010N91");
        due("16 it knows it, nothing is left", x.fewest(0, 1), 0);
        due("16 nobody, nothing is left", x.fewest(0, 0), 0);
        due("16 the other one", x.fewest(0, 2), NONE);
        due("16 both", x.fewest(0, 3), NONE);
        due("16 nobody at all knows it", x.fewest(1, 1), NONE);
        due("16 nobody is asked for", x.fewest(1, 0), 0);
        Checks.hours(x, 5);
        due("16 it knows it in hour 5", x.fewest(0, 1), 0);
    }

    private static void toTheEndOfHourFive() {
        ToldNineTimes x = Checks.on("D0P-----0P-----0P-----1P-----1P------N9102N2102");
        for (int hour = 0; hour <= 5; hour++) {
            due("16 one", x.fewest(0, 2), 1);
            due("16 both", x.fewest(0, 10), 2);
            due("17 in hour 5", x.planAt(0, 10, 5 - hour), 3);
            due("17 no hour 6", x.planAt(0, 10, 6 - hour), NONE);
            due("18 four", x.most(0), 4);
            due("19 nine cannot be spent", x.spent(0, 4), NONE);
            due("19 two can", x.spent(1, 4), 6 - hour);
            due("20 one", x.duel(0, 1), 1);
            due("20 the one that is nowhere", x.duel(0, 4), 0);
            due("21 one hour", x.chance(0, 1, 0, 5, false), 2);
            x.hour();
        }
    }

    private static void hoursGoneBy() {
        ToldNineTimes x = Checks.on("D0P0-----P0-----N910");
        due("16 in this hour", x.fewest(0, 2), 1);
        due("18 in this hour", x.most(0), 2);
        due("20 in this hour", x.duel(0, 1), 1);
        due("21 in this hour", x.chance(0, 1, 0, 10, true), 1);
        x.hour();
        due("16 gone by", x.fewest(0, 2), NONE);
        due("17 gone by", x.planAt(0, 2, 0), NONE);
        due("18 gone by", x.most(0), 1);
        due("20 gone by", x.duel(0, 1), 0);
        due("21 gone by", x.chance(0, 1, 0, 10, true), 0);
        due("24 but rows are from hour 0", x.rows(0), 2);
    }

    private static void whereItMayBeTold() {
        ToldNineTimes x = Checks.on("D0P000000P111111P111111P------P------N91034");
        due("16 alone", x.fewest(0, 2), NONE);
        due("18 alone, or nowhere, or where nobody knows it", x.most(0), 3);
        due("19 it cannot be told", x.spent(0, 1), NONE);
        due("20 it cannot be told", x.duel(0, 1), 0);
        due("24 no sets but empty ones", x.rows(0), 1);
    }

    // ---- A PLAN

    private static void plan(String why, ToldNineTimes x, int people, int... sets) {
        for (int i = 0; i < sets.length; i++) {
            due("17 " + why + ", hour " + i, x.planAt(0, people, i), sets[i]);
        }
        due("17 " + why + ", i -1", x.planAt(0, people, -1), NONE);
        due("17 " + why + ", behind its end", x.planAt(0, people, sets.length), NONE);
        due("17 " + why + ", far behind its end", x.planAt(0, people, Integer.MAX_VALUE), NONE);
        due("17 " + why + ", far ahead of it", x.planAt(0, people, Integer.MIN_VALUE), NONE);
    }

    private static void onlyWhatIsNeeded() {
        ToldNineTimes x = Checks.on("D0" + PAIRS + "N91024");
        plan("none", x, 0, 0, 0, 0, 0, 0, 0);
        plan("who knows it", x, 1 | 4 | 16, 0, 0, 0, 0, 0, 0);
        plan("place 0", x, 2, 1, 0, 0, 0, 0, 0);
        plan("place 1", x, 8, 2, 0, 0, 0, 0, 0);
        plan("place 2", x, 32, 4, 0, 0, 0, 0, 0);
        plan("all places", x, 63, 7, 0, 0, 0, 0, 0);
        due("16 all places", x.fewest(0, 63), 3);
    }

    private static void plansFromNowOn() {
        ToldNineTimes x = Checks.on("D0" + CHAIN + "N510");
        plan("the chain", x, 63, 1, 1, 1, 1, 1, 0);
        x.tell(0, 0);
        plan("this hour's is told", x, 63, 0, 1, 1, 1, 1, 0);
        x.hour();
        plan("from hour 1 on", x, 63, 1, 1, 1, 1, 0);
        Checks.hours(x, 4);
        plan("from hour 5 on", x, 3, 0);
        due("17 from hour 5 on there is none for all", x.planAt(0, 63, 0), NONE);
    }

    private static void firstBySets() {
        ToldNineTimes x = Checks.on("D0P0-----P1-----P01----P1-0---P-10---N9101");
        due("16 two ways", x.fewest(0, 16), 2);
        plan("the first hour's set first", x, 16, 1, 2, 0, 0, 0, 0);
        Checks.remake(x, "D0P012---P012---N910");
        plan("as late as can be", x, 2, 0, 0, 4, 0, 0, 0);
        Checks.remake(x, "D0P222210P222210N910");
        plan("by hours, not by places", x, 2, 0, 0, 0, 0, 0, 1);
        Checks.remake(x, "D0P0-----P10----P1-----P-0----N9102");
        due("16 both are needed", x.fewest(0, 2 | 8), 2);
        plan("one telling an hour", x, 2 | 8, 2, 1, 0, 0, 0, 0);
    }

    // ---- MOST

    private static void mostToTheEdge() {
        for (int limit = 0; limit <= 9; limit++) {
            ToldNineTimes x = Checks.on("D0" + PAIRS + "N" + limit + "1024");
            due("18 three places, " + limit + " left", x.most(0), 3 + Math.min(3, limit));
        }
        ToldNineTimes x = Checks.on("D0" + PAIRS + "N91N91012345");
        due("18 nobody", x.most(0), 0);
        due("18 all six", x.most(1), 6);
        due("18 news -1", x.most(-1), UNKNOWN);
        due("18 news 2", x.most(2), UNKNOWN);
        Checks.remake(x, "D0P000000N91N910");
        due("18 nobody of one", x.most(0), 0);
        due("18 one of one", x.most(1), 1);
    }

    // ---- SPENT

    private static void spentByHours() {
        for (int limit = 0; limit <= 9; limit++) {
            ToldNineTimes x = Checks.on("D0" + ALWAYS + "N" + limit + "10");
            due("19 one place, " + limit + " left", x.spent(0, 2), limit <= 6 ? limit : NONE);
        }
    }

    private static void spentFromNowOn() {
        for (int hour = 0; hour <= 5; hour++) {
            int hours = 6 - hour;
            ToldNineTimes x = Checks.on("D0" + ALWAYS + "N" + hours + "10N" + (hours + 1) + "10");
            Checks.hours(x, hour);
            due("19 as many as hours", x.spent(0, 2), hours);
            due("19 one more than hours", x.spent(1, 2), NONE);
            x.tell(0, 1);
            due("19 one was told in this hour", x.spent(1, 2), hours);
        }
    }

    private static void spentWithoutOne() {
        ToldNineTimes x = Checks.on("D0" + ALWAYS + "N110N010N9102");
        due("19 nothing is left", x.spent(1, 2), 0);
        due("19 it would know it", x.spent(0, 1), NONE);
        due("19 it knows it now", x.spent(0, 0), NONE);
        due("19 it knows it now, nothing is left", x.spent(1, 0), NONE);
        due("19 all know it", x.spent(2, 1), NONE);
        x.tell(0, 0);
        due("19 all was told", x.spent(0, 2), 0);
        due("19 all was told to it", x.spent(0, 1), NONE);
        Checks.remake(x, "D0" + TWO + "N01N11");
        due("19 nothing is left, nobody knows it", x.spent(0, 1), 0);
        due("19 one is left, nobody knows it", x.spent(1, 1), NONE);
        Checks.remake(x, "D0" + CHAIN + "N410N510");
        due("19 four, and the last one does not know it", x.spent(0, 5), 4);
        due("19 five, and it would", x.spent(1, 5), NONE);
        due("19 person -1", x.spent(0, -1), UNKNOWN);
        due("19 person 6", x.spent(0, 6), UNKNOWN);
        due("19 news -1", x.spent(-1, 0), UNKNOWN);
        due("19 news 2", x.spent(2, 0), UNKNOWN);
    }

    private static void spentAtTwoPlaces() {
        for (int limit = 0; limit <= 9; limit++) {
            String text = "D0P000000P000000P111111P111111P222222N" + limit + "102";
            due("19 two places, " + limit + " left", Checks.on(text).spent(0, 4), (limit + 1) / 2);
        }
        ToldNineTimes x = Checks.on("D0P000000P000000P011111P------N310");
        due("19 not while it is there", x.spent(0, 2), 4);
        due("19 one that is nowhere", x.spent(0, 3), 3);
        x.hour();
        due("19 now it is gone", x.spent(0, 2), 3);
    }

    // ---- A DUEL

    private static void duelsOfOneHour() {
        for (int limit = 0; limit <= 9; limit++) {
            ToldNineTimes x = Checks.on("D0" + PAIRS + "N" + limit + "104");
            due("20 the friend is first, " + limit + " left", x.duel(0, 1), limit > 0 ? 1 : 0);
            due("20 it knows it, " + limit + " left", x.duel(0, 0), 1);
            due("20 where nobody knows it", x.duel(0, 2), 0);
            due("20 nobody knows it at all", Checks.on("D0" + TWO + "N" + limit + "1").duel(0, 1), 0);
            Checks.hours(x, 5);
            due("20 gone by", x.duel(0, 1), 0);
            due("20 it knows it in hour 5", x.duel(0, 4), 1);
        }
    }

    private static void duelsUntilHourFive() {
        for (int limit = 0; limit <= 9; limit++) {
            ToldNineTimes x = Checks.on("D0P000000P00000-P-----0N" + limit + "10");
            for (int hour = 0; hour <= 5; hour++) {
                // The foe spends one in each hour ahead of hour 5, where the friend is first.
                due("20 in hour " + hour + ", " + limit + " left", x.duel(0, 2), limit >= 6 - hour ? 1 : 0);
                x.hour();
            }
        }
    }

    private static void duelsOfAChain() {
        for (int limit = 0; limit <= 9; limit++) {
            ToldNineTimes x = Checks.on("D0" + CHAIN + "N" + limit + "10");
            for (int person = 0; person < 6; person++) {
                due("20 chain to " + person + ", " + limit + " left", x.duel(0, person), limit >= person ? 1 : 0);
            }
            due("20 person -1", x.duel(0, -1), UNKNOWN);
            due("20 person 6", x.duel(0, 6), UNKNOWN);
            due("20 news 1", x.duel(1, 0), UNKNOWN);
        }
    }

    private static void duelsByAnotherPlace() {
        // In hour 0 the friend must tell at place 0; the foe can tell at place 1 in hours 0 and 1.
        String text = "P0-----P0-0---P11----P11----P--0---";
        ToldNineTimes x = Checks.on("D0" + text + "N2102N3102N4102");
        due("20 two: one for the friend, one for the foe", x.duel(0, 4), 0);
        due("20 three: two for the foe", x.duel(1, 4), 0);
        due("20 four: two are left", x.duel(2, 4), 1);
        due("20 what the friend needs at once", x.duel(0, 1), 1);
        // The foe may tell nothing at the friend's place, and nowhere else is it known.
        Checks.remake(x, "D0P0-----P0-0---P--0---N210N110");
        due("20 the foe has no place", x.duel(0, 2), 1);
        due("20 the friend has only one", x.duel(1, 2), 0);
    }

    // ---- CHANCE

    private static void chance(String why, ToldNineTimes x, int tenths, int above, int below) {
        due("21 " + why + " by " + tenths + ", above", x.chance(0, 1, 0, tenths, true), above);
        due("21 " + why + " by " + tenths + ", below", x.chance(0, 1, 0, tenths, false), below);
    }

    private static void chancesToTheEdge() {
        ToldNineTimes x = Checks.on("D0P0-----P0-----N910");
        int[] above = {0, 1, 1, 3, 2, 1, 3, 7, 4, 9, 1};
        int[] below = {1, 10, 5, 10, 5, 2, 5, 10, 5, 10, 1};
        for (int tenths = 0; tenths <= 10; tenths++) {
            chance("one hour", x, tenths, above[tenths], below[tenths]);
        }
        due("21 x -1", x.chance(0, 1, 0, -1, true), BAD);
        due("21 x 11", x.chance(0, 1, 0, 11, true), BAD);
        due("21 place -1", x.chance(0, 1, -1, 5, true), UNKNOWN);
        due("21 place 3", x.chance(0, 1, 3, 5, true), UNKNOWN);
        for (int tenths = 0; tenths <= 10; tenths++) {
            for (int place = 1; place <= 2; place++) {
                due("21 it is told elsewhere", x.chance(0, 1, place, tenths, true), 0);
                due("21 it is told elsewhere", x.chance(0, 1, place, tenths, false), 1);
            }
        }
        Checks.remake(x, "D0" + TWO + "N910");
        chance("six hours", x, 0, 0, 1);
        chance("six hours", x, 1, 468559, 1000000);
        chance("six hours", x, 2, 11529, 15625);
        chance("six hours", x, 5, 63, 64);
        chance("six hours", x, 9, 999999, 1000000);
        chance("six hours", x, 10, 1, 1);
    }

    private static void chancesFromNowOn() {
        ToldNineTimes x = Checks.on("D0" + TWO + "N910");
        for (int hour = 0; hour <= 5; hour++) {
            int below = 1 << 6 - hour;
            chance("from hour " + hour + " on", x, 5, below - 1, below);
            x.hour();
        }
        // Only hours count in which both should be at that place.
        Checks.remake(x, "D0P00-1-0P0-01-2N910");
        chance("hour 0 alone", x, 5, 1, 2);
        due("21 hour 3 at place 1", x.chance(0, 1, 1, 5, false), 2);
        due("21 never at place 2", x.chance(0, 1, 2, 5, true), 0);
    }

    private static void chancesByWhoKnowsItNow() {
        ToldNineTimes x = Checks.on("D0P0-----P-0000-P00000-N910");
        chance("who knows it only later does not tell it", x, 5, 0, 1);
        x.tell(0, 0);
        chance("who knows it now does", x, 5, 15, 16);
        x.undo();
        chance("not when it is undone", x, 5, 0, 1);
        Checks.remake(x, "D0P000000P000000P000000N9102");
        chance("two that know it tell it once an hour", x, 5, 63, 64);
    }

    private static void chancesOfOneThatKnowsIt() {
        ToldNineTimes x = Checks.on("D0P000000P------N011");
        for (int tenths = 0; tenths <= 10; tenths++) {
            for (int place = 0; place <= 2; place++) {
                due("21 it knows it now, above", x.chance(0, 1, place, tenths, true), 1);
                due("21 it knows it now, below", x.chance(0, 1, place, tenths, false), 1);
            }
        }
        due("21 it knows it, x 11", x.chance(0, 1, 0, 11, true), BAD);
        due("21 it knows it, place 3", x.chance(0, 1, 3, 0, true), UNKNOWN);
    }

    private static void chancesWhateverIsLeft() {
        for (int law = 0; law <= 2; law++) {
            ToldNineTimes x = Checks.on("D" + law + TWO + "N010");
            chance("nothing is left", x, 5, 63, 64);
            Checks.remake(x, "D" + law + TWO + "P000000N9102");
            chance("by law " + law, x, 5, 63, 64);
        }
    }

    // ---- SIGHTS

    private static void eightSights() {
        ToldNineTimes x = Checks.on("D0" + TWO + "N910");
        due("23 none at first", x.unsee(), 0);
        for (int i = 1; i <= 8; i++) {
            due("22 how many there are", x.sight(5, 0, true), i);
            due("6 sights", x.about(7), i);
        }
        due("22 a ninth", x.sight(5, 0, true), FULL);
        due("6 eight", x.about(7), 8);
        due("23 how many there were", x.unsee(), 8);
        due("6 none", x.about(7), 0);
        due("22 room again", x.sight(5, 0, true), 1);
        due("23 one", x.unsee(), 1);
    }

    private static void hoursOfSights() {
        for (int hour = 0; hour <= 5; hour++) {
            ToldNineTimes x = Checks.on("D0" + TWO + "N910");
            int untold = 1 << 5 - hour;
            due("22 it knew it at the end of hour " + hour, x.sight(hour, 1, true), 1);
            due("24 told by then", x.rows(0), 64 - untold);
            x.unsee();
            due("22 it did not", x.sight(hour, 1, false), 1);
            due("24 not told by then", x.rows(0), untold);
        }
        ToldNineTimes x = Checks.on("D0" + TWO + "N910");
        due("22 hour -1", x.sight(-1, 1, true), BAD);
        due("22 hour 6", x.sight(6, 1, true), BAD);
        due("22 person -1", x.sight(0, -1, true), UNKNOWN);
        due("22 person 2", x.sight(0, 2, true), UNKNOWN);
        due("6 none of these is a sight", x.about(7), 0);
        due("22 whatever the hour is", x.hour() + x.sight(0, 1, true), 2);
    }

    private static void sightsOfOneHour() {
        for (int set = 0; set < 8; set++) {
            ToldNineTimes x = Checks.on("D0" + PAIRS + "N91024");
            for (int place = 2; place >= 0; place--) {
                due("24 places not seen yet", x.rows(0), 2 << place);
                x.sight(0, 2 * place + 1, (set >> place & 1) != 0);
            }
            due("24 each set once", x.rows(0), 1);
            x.sight(0, 1, (set & 1) == 0);
            due("24 both cannot be", x.rows(0), 0);
        }
        ToldNineTimes x = Checks.on("D0" + PAIRS + "N91024");
        x.sight(3, 1, true);
        x.sight(3, 3, true);
        x.sight(3, 1, true);
        due("24 the same one twice is one", x.rows(0), 2);
        x.unsee();
        x.sight(3, 5, false);
        x.sight(3, 3, false);
        x.sight(3, 5, false);
        due("24 the same one twice is one", x.rows(0), 2);
    }

    private static void everySightCounts() {
        for (int odd = 0; odd < 8; odd++) {
            ToldNineTimes x = Checks.on("D0" + TWO + "N910");
            for (int i = 0; i < 8; i++) {
                x.sight(i % 6, 0, i != odd);
            }
            due("24 sight " + odd + " does not fit", x.rows(0), 0);
        }
    }

    private static void unseen() {
        ToldNineTimes x = Checks.on("D0" + TWO + "N911N91");
        for (int hour = 0; hour <= 5; hour++) {
            x.sight(hour, 0, hour > 2);
        }
        due("24 told in hour 3 for the first time", x.rows(0), 4);
        due("24 nobody knew news 1", x.rows(1), 0);
        due("23 six", x.unsee(), 6);
        due("24 all rows", x.rows(0), 64);
        due("24 all rows of news 1", x.rows(1), 1);
    }

    private static void sightsThatCannotBe() {
        ToldNineTimes x = Checks.on("D0" + ALWAYS + "N910");
        x.sight(5, 2, true);
        due("24 one that can never know it", x.rows(0), 0);
        x.unsee();
        x.sight(0, 0, false);
        due("24 one that knew it at first", x.rows(0), 0);
        x.unsee();
        x.sight(2, 1, true);
        x.sight(3, 1, false);
        due("24 nobody forgets it", x.rows(0), 0);
        x.unsee();
        x.sight(2, 1, true);
        x.sight(2, 1, false);
        due("24 it knew it and it did not", x.rows(0), 0);
    }

    private static void oneThatIsNotThereAnyMore() {
        ToldNineTimes x = Checks.on("D0" + TWO + "N9101");
        x.sight(0, 1, false);
        due("24 it knew it at first", x.rows(0), 0);
        Checks.remake(x, "D0P000000N910");
        due("24 not there any more, it knew nothing", x.rows(0), 1);
        x.sight(5, 0, true);
        due("24 who is there, knew it", x.rows(0), 1);
        Checks.remake(x, "D0" + TWO + "N9101");
        due("24 there again, it did not know it", x.rows(0), 0);
        x.unsee();
        x.sight(0, 1, true);
        due("24 it knew it", x.rows(0), 64);
        Checks.remake(x, "D0P000000N910");
        due("24 not there any more, it knew nothing", x.rows(0), 0);
        Checks.remake(x, "D0N91");
        due("24 nobody is there", x.rows(0), 0);
        due("23 it is still seen", x.unsee(), 1);
        due("24 nobody is there", x.rows(0), 1);
    }

    // ---- ROWS

    private static void rowsByLimits() {
        for (int limit = 0; limit <= 9; limit++) {
            ToldNineTimes x = Checks.on("D0" + TWO + "N" + limit + "10");
            due("24 six hours, told " + limit + " times", x.rows(0), choicesUpTo(6, limit));
            Checks.remake(x, "D0" + TWO + "N" + limit + "101");
            due("24 all knew it, told " + limit + " times", x.rows(0), choicesUpTo(6, limit));
            Checks.remake(x, "D0" + PAIRS + "N" + limit + "1024");
            due("24 three places, told " + limit + " times", x.rows(0), choicesUpTo(3, limit));
            String pairs = "P000000P000000P111111P111111P222222P222222";
            Checks.remake(x, "D0" + pairs + "N" + limit + "1024");
            due("24 as many as can be, told " + limit + " times", x.rows(0), choicesUpTo(18, limit));
        }
        ToldNineTimes x = Checks.on("D0" + CHAIN + "N910");
        due("24 the chain", x.rows(0), 6);
        due("24 news -1", x.rows(-1), UNKNOWN);
        due("24 news 1", x.rows(1), UNKNOWN);
    }

    private static void rowsFromHourZero() {
        ToldNineTimes x = Checks.on("D0" + TWO + "N210N210");
        x.tell(0, 0);
        x.tell(0, 0);
        Checks.hours(x, 5);
        due("24 whatever was told", x.rows(0), choicesUpTo(6, 2));
        due("24 whatever the hour is", x.rows(1), choicesUpTo(6, 2));
    }

    private static void rowsByAnyLaw() {
        for (int law = 0; law <= 2; law++) {
            ToldNineTimes x = Checks.on("D" + law + TWO + "N910");
            due("24 law " + law, x.rows(0), 64);
        }
    }

    private static void rowsFromWhoKnewItAtFirst() {
        ToldNineTimes x = Checks.on("D0P0-----P0-----N911N91N91");
        due("24 one knew it", x.rows(0), 2);
        due("24 nobody knew it", x.rows(1), 1);
        due("24 no halves", x.rows(2), 1);
        Checks.remake(x, "D0P0-----P0-----N911N911N91");
        due("24 halves at first", x.rows(2), 2);
        Checks.remake(x, "D0P0-----P0-----P0-----N911N910N91");
        x.tell(0, 1);
        due("8 halves since then", x.news(2, 3), 2);
        due("24 but not at first", x.rows(2), 1);
    }

    // ---- refusals

    private static void lawsThatAreNotZero() {
        for (int law = 0; law <= 2; law++) {
            ToldNineTimes x = Checks.on("D" + law + TWO + "N210");
            due("16 law " + law, x.fewest(0, 3), law == 0 ? 1 : LATE);
            due("17 law " + law, x.planAt(0, 3, 5), law == 0 ? 1 : LATE);
            due("17 no such hour, law " + law, x.planAt(0, 3, 6), law == 0 ? NONE : LATE);
            due("18 law " + law, x.most(0), law == 0 ? 2 : LATE);
            due("19 law " + law, x.spent(0, 1), law == 0 ? NONE : LATE);
            due("20 law " + law, x.duel(0, 1), law == 0 ? 1 : LATE);
            due("16 BAD ahead of LATE, law " + law, x.fewest(0, 4), BAD);
            due("17 BAD ahead of LATE, law " + law, x.planAt(0, 4, 0), BAD);
            due("16 UNKNOWN ahead of BAD, law " + law, x.fewest(1, 4), UNKNOWN);
            due("17 UNKNOWN ahead of BAD, law " + law, x.planAt(1, 4, 0), UNKNOWN);
            due("18 UNKNOWN ahead of LATE, law " + law, x.most(1), UNKNOWN);
            due("19 UNKNOWN ahead of LATE, law " + law, x.spent(0, 2), UNKNOWN);
            due("20 UNKNOWN ahead of LATE, law " + law, x.duel(0, 2), UNKNOWN);
        }
    }

    /** News 2 and person 5, the last ones that there can be. */
    private static void lastOnes() {
        ToldNineTimes x = Checks.on("D0" + PAIRS + "N91N91N914");
        due("16 the last ones", x.fewest(2, 32), 1);
        due("17 the last ones", x.planAt(2, 32, 0), 4);
        due("18 the last ones", x.most(2), 2);
        due("19 the last ones", x.spent(2, 5), NONE);
        due("20 the last ones", x.duel(2, 5), 1);
        due("21 the last ones", x.chance(2, 5, 2, 5, false), 2);
        due("22 the last ones", x.sight(5, 5, true), 1);
        due("24 the last ones", x.rows(2), 1);
        due("16 news 3", x.fewest(3, 32), UNKNOWN);
        due("17 news 3", x.planAt(3, 32, 0), UNKNOWN);
        due("18 news 3", x.most(3), UNKNOWN);
        due("21 news 3", x.chance(3, 5, 2, 5, false), UNKNOWN);
        due("21 person 6", x.chance(2, 6, 2, 5, false), UNKNOWN);
        due("22 person 6", x.sight(5, 6, true), UNKNOWN);
        due("24 news 3", x.rows(3), UNKNOWN);
    }
}
