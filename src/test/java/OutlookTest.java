/** Promises 16 to 24: plans of one news, sights. */
public final class OutlookTest {
    private static final Checks CHECKS = new Checks();
    private static final int UNKNOWN = ToldNineTimes.UNKNOWN, BAD = ToldNineTimes.BAD, LATE = ToldNineTimes.LATE;
    private static final int FULL = ToldNineTimes.FULL, NONE = ToldNineTimes.NONE;
    private static final int[] ODD = {-1, Integer.MIN_VALUE, Integer.MAX_VALUE, 64, 1 << 16};

    /** 0 meets 1 in hours 0 and 2, 1 meets 2 in hours 1 and 3, 3 is always alone. */
    private static final String CHAIN = "P0-0---P0101--P-1-1--P222222";

    public static void main(String[] args) {
        fewest();
        plans();
        planOfSetsAtOnce();
        most();
        spent();
        duels();
        duelsWhereTheFoeMustSpread();
        chances();
        sights();
        rows();
        sightsOfOthers();
        byLawZero();
        withoutHalves();
        wrongPlans();
        wrongSights();
        nothingIsChanged();
        CHECKS.end();
    }

    private static void due(String call, long got, long want) {
        CHECKS.due(call, got, want);
    }

    private static void fewest() {
        ToldNineTimes x = Checks.on("D0" + CHAIN + "N210N110N91");
        due("16 nobody", x.fewest(0, 0), 0);
        due("16 one that knows it", x.fewest(0, 1), 0);
        due("16 one", x.fewest(0, 2), 1);
        due("16 by one between", x.fewest(0, 4), 2);
        due("16 all three", x.fewest(0, 7), 2);
        due("16 one alone", x.fewest(0, 8), NONE);
        due("16 not so much is left", x.fewest(1, 4), NONE);
        due("16 as much as is left", x.fewest(1, 3), 1);
        x.hour();
        due("16 from now on", x.fewest(0, 7), 2);
        x.hour();
        x.hour();
        due("16 too late for it", x.fewest(0, 2), NONE);
        Checks.remake(x, "D0" + CHAIN + "N910N91");
        due("16 nobody knows it", x.fewest(1, 1), NONE);
        due("16 nobody is asked for", x.fewest(1, 0), 0);
    }

    private static void plans() {
        ToldNineTimes x = Checks.on("D0" + CHAIN + "N210");
        int[] early = {0, 0, 1, 2, 0, 0};
        for (int i = 0; i < 6; i++) {
            due("17 as late as can be, hour " + i, x.planAt(0, 7, i), early[i]);
            due("17 all know it already, hour " + i, x.planAt(0, 1, i), 0);
        }
        due("17 no hour 6", x.planAt(0, 7, 6), NONE);
        due("17 no plan", x.planAt(0, 8, 0), NONE);
        x.hour();
        due("17 from now on", x.planAt(0, 7, 1), 1);
        due("17 from now on", x.planAt(0, 7, 2), 2);
        due("17 up to hour 5", x.planAt(0, 7, 4), 0);
        due("17 no further", x.planAt(0, 7, 5), NONE);
        for (int odd : ODD) {
            due("17 i " + odd, x.planAt(0, 7, odd), NONE);
        }
        Checks.remake(x, "D0P000000P000000N110");
        x.tell(0, 0);
        due("17 none is left, none is needed", x.planAt(0, 3, 0), 0);
        Checks.remake(x, "D0P000000P000000N010");
        due("17 none is left, one is needed", x.planAt(0, 3, 0), NONE);
    }

    private static void planOfSetsAtOnce() {
        ToldNineTimes x = Checks.on("D0P0-----P1-----P0-----P1-----P2-----P2-----N90014");
        due("16 places at once", x.fewest(0, 63), 3);
        due("17 places at once", x.planAt(0, 63, 0), 7);
        due("17 only where it is needed", x.planAt(0, 8 | 32, 0), 6);
        due("17 only where it is needed", x.planAt(0, 4 | 32, 0), 5);
        Checks.remake(x, "D0P01----P0-----P-1----N9101");
        due("17 of like sets the first", x.planAt(0, 7, 0), 0);
        due("17 and the second hour's", x.planAt(0, 7, 1), 2);
    }

    private static void most() {
        ToldNineTimes x = Checks.on("D0" + CHAIN + "N210N110N01012");
        due("18 all that can", x.most(0), 3);
        due("18 one telling", x.most(1), 2);
        due("18 no telling", x.most(2), 3);
        x.hour();
        x.hour();
        x.hour();
        due("18 too late", x.most(0), 1);
        Checks.remake(x, "D0" + CHAIN + "N91");
        due("18 nobody", x.most(0), 0);
        // One telling: the greater of two groups is chosen.
        Checks.remake(x, "D0P01----P0-----P-1----P-1----N110");
        due("18 the greater group", x.most(0), 3);
    }

    private static void spent() {
        ToldNineTimes x = Checks.on("D0P000000P000000P111110P------N210N010N71");
        due("19 two hours", x.spent(0, 2), 2);
        due("19 nothing is left", x.spent(1, 2), 0);
        due("19 it knows it", x.spent(0, 0), NONE);
        due("19 nothing is left, it knows it", x.spent(1, 0), NONE);
        due("19 it cannot but hear it", x.spent(0, 1), NONE);
        due("19 nobody tells it", x.spent(2, 2), NONE);
        for (int i = 0; i < 4; i++) {
            x.hour();
        }
        due("19 the last hour would tell it", x.spent(0, 2), NONE);
        due("19 but not one that is away", x.spent(0, 3), 2);
        x.tell(0, 0);
        due("19 now one is left", x.spent(0, 2), 1);
        Checks.remake(x, "D0P0-----P0-----P1-----P1-----P2-----N3002");
        due("19 more is left than can be told", x.spent(0, 4), NONE);
        Checks.remake(x, "D0P0-----P0-----P1-----P1-----P2-----N2023");
        due("19 once at each place", x.spent(0, 4), NONE);
        Checks.remake(x, "D0P0-----P0-----P1-----P1-----P2-----N2002");
        due("19 two at once", x.spent(0, 4), 1);
    }

    private static void duels() {
        ToldNineTimes x = Checks.on("D0P000000P000000P222222N110N010");
        due("20 at once", x.duel(0, 1), 1);
        due("20 it knows it", x.duel(0, 0), 1);
        due("20 it knows it, nothing is left", x.duel(1, 0), 1);
        due("20 nothing is left", x.duel(1, 1), 0);
        due("20 never there", x.duel(0, 2), 0);
        // The foe spends it in hour 0 among 0 and 1, ahead of hour 1 where 2 could hear it.
        Checks.remake(x, "D0P01----P0-----P-1----N110N210");
        due("20 the foe spends it", x.duel(0, 2), 0);
        due("20 more is left", x.duel(1, 2), 1);
        Checks.remake(x, "D0P001---P00----P--1---N210N310");
        due("20 the foe spends two", x.duel(0, 2), 0);
        due("20 three are left", x.duel(1, 2), 1);
        x.hour();
        due("20 from now on", x.duel(0, 2), 1);
    }

    private static void duelsWhereTheFoeMustSpread() {
        // In hour 0 the foe can spend at places 0 and 1 only by one telling an hour.
        ToldNineTimes x = Checks.on("D0P02----P0-----P1-----P1-----P-2----N2002N3002");
        due("20 one telling an hour for the foe", x.duel(0, 4), 1);
        due("20 more is left", x.duel(1, 4), 1);
        // What the friend tells at the foe's place the foe cannot tell there again.
        Checks.remake(x, "D0P0-1---P0-----P--1---N210");
        due("20 once at each place", x.duel(0, 2), 1);
        // One that knows it only since this hour's first telling can't be gone on from in it.
        Checks.remake(x, "D0P0-----P0-----P1-----N910");
        due("20 ahead of both", x.duel(0, 2), 0);
    }

    private static void chance(ToldNineTimes x, int person, int place, int tenths, int above, int below) {
        String call = "21 chance " + person + " " + place + " " + tenths;
        due(call + " above", x.chance(0, person, place, tenths, true), above);
        due(call + " below", x.chance(0, person, place, tenths, false), below);
    }

    private static void chances() {
        ToldNineTimes x = Checks.on("D0P000000P000000P001100P111111N010");
        chance(x, 0, 0, 3, 1, 1);
        chance(x, 0, 2, 0, 1, 1);
        chance(x, 1, 0, 1, 468559, 1000000);
        chance(x, 1, 0, 5, 63, 64);
        chance(x, 1, 0, 0, 0, 1);
        chance(x, 1, 0, 10, 1, 1);
        chance(x, 1, 1, 10, 0, 1);
        chance(x, 2, 0, 2, 369, 625);
        chance(x, 2, 1, 2, 0, 1);
        chance(x, 3, 1, 2, 0, 1);
        x.hour();
        chance(x, 2, 0, 5, 7, 8);
        due("21 x 11", x.chance(0, 2, 0, 11, true), BAD);
        due("21 x -1", x.chance(0, 0, 0, -1, true), BAD);
        due("21 place 3", x.chance(0, 2, 3, 11, true), UNKNOWN);
        due("21 person 4", x.chance(0, 4, 0, 11, true), UNKNOWN);
        due("21 news 1", x.chance(1, 0, 0, 11, true), UNKNOWN);
        for (int odd : ODD) {
            due("21 news " + odd, x.chance(odd, 0, 0, 0, true), UNKNOWN);
            due("21 person " + odd, x.chance(0, odd, 0, 0, true), UNKNOWN);
            due("21 place " + odd, x.chance(0, 0, odd, 0, true), UNKNOWN);
            due("21 x " + odd, x.chance(0, 0, 0, odd, true), BAD);
        }
        x.hour();
        x.hour();
        x.hour();
        x.hour();
        chance(x, 1, 0, 4, 2, 5);
    }

    private static void sights() {
        ToldNineTimes x = Checks.on("D0P000000P000000N910");
        due("23 none", x.unsee(), 0);
        for (int i = 1; i <= 8; i++) {
            due("22 a sight", x.sight(i % 6, i % 2, i > 3), i);
        }
        due("22 no more than 8", x.sight(0, 0, true), FULL);
        due("22 no more than 8", x.about(7), 8);
        due("23 eight", x.unsee(), 8);
        due("23 none any more", x.unsee(), 0);
        due("22 again", x.sight(0, 0, true), 1);
    }

    private static void rows() {
        ToldNineTimes x = Checks.on("D0P0-----P0-----N11N910N010");
        due("24 nobody knows it", x.rows(0), 1);
        due("24 told or not", x.rows(1), 2);
        due("24 it may not be told", x.rows(2), 1);
        x.sight(3, 1, true);
        due("24 it was", x.rows(1), 1);
        due("24 it was, but could not", x.rows(2), 0);
        x.sight(0, 1, false);
        due("24 too late", x.rows(1), 0);
        x.unsee();
        x.sight(5, 1, false);
        due("24 it was not", x.rows(1), 1);
        x.unsee();
        Checks.remake(x, "D0P000000P000000P111111P111111P222222P222222N9101N9102N91024");
        due("24 one place, six hours", x.rows(0), 64);
        due("24 two places, nine tellings at most", x.rows(1), sumOfChoices(12, 9));
        due("24 three places, nine tellings at most", x.rows(2), sumOfChoices(18, 9));
        x.tell(0, 0);
        x.hour();
        due("24 from hour 0 and who knew it at first", x.rows(0), 64);
        x.sight(2, 1, true);
        x.sight(2, 4, false);
        due("24 told there in the first three hours", x.rows(1), sumOfChoices(12, 9) - 512);
    }

    private static int sumOfChoices(int of, int most) {
        long sum = 0;
        long choices = 1;
        for (int i = 0; i <= most; i++) {
            sum += choices;
            choices = choices * (of - i) / (i + 1);
        }
        return (int) sum;
    }

    private static void sightsOfOthers() {
        ToldNineTimes x = Checks.on("D0P000000P000000P000000N910");
        x.sight(1, 2, false);
        Checks.remake(x, "D0P0-----P0-----N910");
        due("24 one that is not there knew nothing", x.rows(0), 2);
        Checks.remake(x, "D0P000000P000000P000000N910");
        x.sight(1, 2, true);
        Checks.remake(x, "D0P0-----P0-----N910");
        due("24 so it cannot have known it", x.rows(0), 0);
        due("5 sights stay", x.about(7), 2);
    }

    private static void byLawZero() {
        ToldNineTimes x = Checks.on("D1P000000P000000N910");
        due("16 law 1", x.fewest(0, 1), LATE);
        due("17 law 1", x.planAt(0, 1, 0), LATE);
        due("17 law 1, no such hour", x.planAt(0, 1, 9), LATE);
        due("18 law 1", x.most(0), LATE);
        due("19 law 1", x.spent(0, 1), LATE);
        due("20 law 1", x.duel(0, 1), LATE);
        due("21 chance by any law", x.chance(0, 1, 0, 5, false), 64);
        due("24 rows by law 0", x.rows(0), 64);
        Checks.remake(x, "D2P000000P000000N910");
        due("16 law 2", x.fewest(0, 1), LATE);
        due("18 law 2", x.most(0), LATE);
        due("19 law 2", x.spent(0, 1), LATE);
        due("20 law 2", x.duel(0, 1), LATE);
        due("24 rows by law 0", x.rows(0), 64);
        due("16 BAD ahead of LATE", x.fewest(0, 4), BAD);
        due("17 BAD ahead of LATE", x.planAt(0, 4, 0), BAD);
        due("16 UNKNOWN ahead of BAD", x.fewest(1, 4), UNKNOWN);
        due("18 UNKNOWN ahead of LATE", x.most(1), UNKNOWN);
        due("19 UNKNOWN ahead of LATE", x.spent(0, 2), UNKNOWN);
        due("20 UNKNOWN ahead of LATE", x.duel(0, 2), UNKNOWN);
    }

    private static void withoutHalves() {
        // 1 would know both halves, but news 2 is looked at by itself.
        ToldNineTimes x = Checks.on("D0P000000P000000N910N911N91");
        due("16 no halves", x.fewest(2, 2), NONE);
        due("18 no halves", x.most(2), 0);
        due("24 no halves", x.rows(2), 1);
        x.tell(0, 0);
        due("16 halves that were made", x.fewest(2, 2), 0);
        due("18 halves that were made", x.most(2), 2);
        due("24 but not at first", x.rows(2), 1);
        Checks.remake(x, "D0P0-----P0-----N910N910N91");
        due("24 halves at first", x.rows(2), 2);
    }

    private static void wrongPlans() {
        ToldNineTimes x = Checks.on("D0P000000P000000N910");
        due("16 all", x.fewest(0, 3), 1);
        due("16 people 4", x.fewest(0, 4), BAD);
        due("17 people 4", x.planAt(0, 4, 0), BAD);
        due("16 news 1", x.fewest(1, 0), UNKNOWN);
        due("17 news 1", x.planAt(1, 0, 0), UNKNOWN);
        for (int odd : ODD) {
            due("16 news " + odd, x.fewest(odd, 0), UNKNOWN);
            due("16 people " + odd, x.fewest(0, odd), BAD);
            due("17 news " + odd, x.planAt(odd, 0, 0), UNKNOWN);
            due("17 people " + odd, x.planAt(0, odd, 0), BAD);
            due("18 news " + odd, x.most(odd), UNKNOWN);
            due("19 news " + odd, x.spent(odd, 0), UNKNOWN);
            due("19 person " + odd, x.spent(0, odd), UNKNOWN);
            due("20 news " + odd, x.duel(odd, 0), UNKNOWN);
            due("20 person " + odd, x.duel(0, odd), UNKNOWN);
            due("24 news " + odd, x.rows(odd), UNKNOWN);
        }
        Checks.remake(x, "D0N91");
        due("16 of nobody", x.fewest(0, 0), 0);
        due("16 of nobody", x.fewest(0, 1), BAD);
        due("18 of nobody", x.most(0), 0);
        due("24 of nobody", x.rows(0), 1);
    }

    private static void wrongSights() {
        ToldNineTimes x = Checks.on("D0P000000P000000N910");
        for (int odd : ODD) {
            due("22 hour " + odd, x.sight(odd, 0, true), BAD);
            due("22 person " + odd, x.sight(0, odd, true), UNKNOWN);
            due("22 both " + odd, x.sight(odd, odd, true), UNKNOWN);
        }
        due("22 hour 6", x.sight(6, 0, true), BAD);
        due("22 person 2", x.sight(6, 2, true), UNKNOWN);
        due("22 nothing is changed", x.about(7), 0);
        due("24 nothing is changed", x.rows(0), 64);
        for (int i = 0; i < 8; i++) {
            x.sight(0, 0, true);
        }
        due("22 UNKNOWN ahead of FULL", x.sight(0, 2, true), UNKNOWN);
        due("22 BAD ahead of FULL", x.sight(6, 0, true), BAD);
    }

    private static void nothingIsChanged() {
        ToldNineTimes x = Checks.on("D0" + CHAIN + "N910");
        x.fewest(0, 7);
        x.planAt(0, 7, 3);
        x.most(0);
        x.spent(0, 3);
        x.duel(0, 2);
        x.chance(0, 2, 1, 4, true);
        x.rows(0);
        due("nothing is changed: who knows it", x.news(0, 3), 1);
        due("nothing is changed: tellings", x.about(5), 0);
        due("nothing is changed: hour", x.about(3), 0);
        due("nothing is changed: acts", x.about(4), 0);
    }
}
