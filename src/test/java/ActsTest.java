/** Promises 11 to 15, 25 and 26: acts and slots. */
public final class ActsTest {
    private static final Checks CHECKS = new Checks();
    private static final int UNKNOWN = ToldNineTimes.UNKNOWN, BAD = ToldNineTimes.BAD, LATE = ToldNineTimes.LATE;
    private static final int NONE = ToldNineTimes.NONE;
    private static final int[] ODD = {-1, Integer.MIN_VALUE, Integer.MAX_VALUE, 64, 1 << 16};

    public static void main(String[] args) {
        whoMayTell();
        lawOne();
        lawTwo();
        halves();
        hours();
        undoes();
        forgottenActs();
        judged();
        judgedByLaws();
        judgedWrongly();
        slots();
        CHECKS.end();
    }

    private static void due(String call, long got, long want) {
        CHECKS.due(call, got, want);
    }

    private static void whoMayTell() {
        ToldNineTimes x = Checks.on("D0P0--000P0--001P111111P--1111N2103N050");
        due("11 knows it, with another", x.may(0, 0), 1);
        due("11 does not know it", x.may(1, 0), 0);
        due("11 is nowhere", x.may(3, 0), 0);
        due("11 is alone and does not know", x.may(2, 0), 0);
        due("11 nothing is left at all", x.may(0, 1), 0);
        due("12 may not be", x.tell(1, 0), LATE);
        due("12 nothing is changed", x.about(4), 0);
        due("12 a telling", x.tell(0, 0), 1);
        due("12 one that knew it", x.tell(1, 0), 0);
        due("11 none is left", x.may(0, 0), 0);
        due("12 none is left", x.tell(0, 0), LATE);
        due("12 those that were there", x.news(0, 3), 11);
        Checks.remake(x, "D0P0--000P0--001P111111P--1111N9103");
        x.hour();
        x.hour();
        due("11 is there now", x.may(3, 0), 1);
        due("11 nowhere now", x.may(0, 0), 0);
        due("12 a telling there", x.tell(3, 0), 1);
        for (int odd : ODD) {
            due("11 person " + odd, x.may(odd, 0), UNKNOWN);
            due("11 news " + odd, x.may(0, odd), UNKNOWN);
            due("12 person " + odd, x.tell(odd, 0), UNKNOWN);
            due("12 news " + odd, x.tell(0, odd), UNKNOWN);
        }
        due("11 person", x.may(4, 0), UNKNOWN);
        due("11 news", x.may(0, 1), UNKNOWN);
        due("12 person", x.tell(4, 0), UNKNOWN);
        due("12 news", x.tell(0, 1), UNKNOWN);
    }

    private static void lawOne() {
        ToldNineTimes x = Checks.on("D1P000000P000000N910N910");
        due("law 1: once", x.tell(0, 0), 1);
        due("law 1: not twice", x.may(0, 0), 0);
        due("law 1: another news", x.tell(0, 1), 1);
        due("law 1: another one", x.tell(1, 0), 0);
        x.hour();
        due("law 1: not in another hour", x.tell(0, 0), LATE);
        Checks.remake(x, "D0P000000P000000N910");
        for (int i = 0; i < 9; i++) {
            due("law 0: so often", x.tell(0, 0), i == 0 ? 1 : 0);
        }
        due("law 0: told nine times and it is dead", x.tell(0, 0), LATE);
    }

    private static void lawTwo() {
        ToldNineTimes x = Checks.on("D2P001000P001000N910N910");
        for (int i = 0; i < 3; i++) {
            due("law 2: three times", x.tell(0, 0), i == 0 ? 1 : 0);
        }
        due("law 2: not four times", x.tell(1, 0), LATE);
        due("law 2: another news", x.tell(0, 1), 1);
        x.hour();
        due("law 2: another hour, same place", x.tell(0, 0), LATE);
        x.hour();
        due("law 2: another place", x.tell(0, 0), 0);
    }

    private static void halves() {
        ToldNineTimes x = Checks.on("D0P000000P000000P111111N910N921N99");
        due("halves: one half", x.tell(0, 0), 1);
        due("halves: who had the other one", x.news(2, 3), 2);
        due("halves: it may tell it", x.may(1, 2), 1);
        due("halves: only what was told counts", x.tell(1, 1), 1);
        due("halves: both", x.news(2, 3), 3);
        due("halves: nothing was told of it", x.news(2, 2), 0);
        due("halves: left", x.left(0, 2), 9);
        due("halves: undone", x.undo(), 1);
        due("halves: as ahead", x.news(2, 3), 2);
    }

    private static void hours() {
        ToldNineTimes x = Checks.on("D0");
        for (int hour = 1; hour <= 5; hour++) {
            due("13 hour", x.hour(), hour);
        }
        due("13 it is 5", x.hour(), LATE);
        due("13 nothing is changed", x.about(3), 5);
        due("13 acts", x.about(4), 5);
    }

    private static void undoes() {
        ToldNineTimes x = Checks.on("D2P000000P010000P000000N910N921N99");
        due("14 none", x.undo(), LATE);
        x.tell(0, 0);
        x.hour();
        x.tell(0, 0);
        x.tell(2, 0);
        due("14 a telling", x.undo(), 3);
        due("14 told", x.told(2, 0), 0);
        due("14 it may be again", x.tell(2, 0), 0);
        due("14 told at a place too often", x.may(2, 0), 0);
        due("14 again", x.undo(), 3);
        due("14 and one more", x.undo(), 2);
        due("14 left of one that was there", x.left(0, 0), 8);
        due("14 left of one that was not", x.left(1, 0), 8);
        due("14 told at a place", x.may(2, 0), 1);
        due("14 an hour", x.undo(), 1);
        due("14 the hour", x.about(3), 0);
        due("14 the first telling", x.undo(), 0);
        due("14 who knows it", x.news(0, 3), 1);
        due("14 tellings", x.about(5), 0);
        due("14 left", x.left(0, 0), 9);
        due("14 halves", x.news(2, 3), 0);
        due("14 none is left", x.undo(), LATE);
    }

    private static void forgottenActs() {
        ToldNineTimes x = Checks.on("D0P000000P000000N9101N9101N9101");
        for (int i = 0; i < 16; i++) {
            x.tell(i % 2, i % 3);
            due("acts", x.about(4), i + 1);
        }
        x.hour();
        due("16 acts at most", x.about(4), 16);
        x.tell(0, 0);
        due("16 acts at most still", x.about(4), 16);
        for (int left = 15; left >= 0; left--) {
            due("14 undone", x.undo(), left);
        }
        due("14 what is forgotten stays", x.undo(), LATE);
        due("14 two tellings", x.about(5), 2);
        due("14 the first", x.told(0, 0), 1);
        due("14 the second", x.told(1, 1), 1);
        due("14 the hour", x.about(3), 0);
    }

    private static void judged() {
        ToldNineTimes x = Checks.on("D0P001111P000000P111100N310");
        due("15 one", x.judge(0, 1, 0), NONE);
        due("15 does not know it", x.judge(0, 1, 1), 0);
        due("15 comes to know it", x.judge(0, 2, 1), NONE);
        due("15 the first one first", x.judge(0, 2, 10), 0);
        due("15 leading figures 0", x.judge(0, 3, 0), NONE);
        due("15 none is left", x.judge(0, 4, 0), 3);
        due("15 hours", x.judge(0, 4, 9902), NONE);
        due("15 one that is not there yet", x.judge(0, 4, 9920), 2);
        due("15 nobody", x.judge(0, 2, 3), 1);
        due("15 nobody", x.judge(0, 1, 8), 0);
        due("15 nothing is changed: who knows", x.news(0, 3), 1);
        due("15 nothing is changed: acts", x.about(4), 0);
        due("15 nothing is changed: hour", x.about(3), 0);
        for (int i = 0; i < 3; i++) {
            x.hour();
        }
        due("15 to hour 5", x.judge(0, 2, 99), NONE);
        due("15 no hour is left", x.judge(0, 3, 999), 2);
        due("15 nor at the end", x.judge(0, 4, 9909), 2);
    }

    private static void judgedByLaws() {
        ToldNineTimes x = Checks.on("D1P000000P000000N910");
        due("15 law 1: the first one again", x.judge(0, 3, 10), 2);
        due("15 law 1: twice at once", x.judge(0, 3, 9), 1);
        due("15 law 1: twice in two hours", x.judge(0, 3, 90), 2);
        due("15 law 1: each once", x.judge(0, 2, 1), NONE);
        Checks.remake(x, "D2P000000P000000N910");
        due("15 law 2", x.judge(0, 4, 101), 3);
        Checks.remake(x, "D0P000000P000000N910N921N99");
        x.tell(0, 0);
        due("15 halves that are there", x.judge(2, 1, 1), NONE);
        due("15 halves that are not", x.judge(2, 1, 0), 0);
        due("15 heard from one", x.judge(2, 2, 10), NONE);
    }

    private static void judgedWrongly() {
        ToldNineTimes x = Checks.on("D0P000000P000000N910");
        due("15 n 0", x.judge(0, 0, 0), BAD);
        due("15 n 5", x.judge(0, 5, 0), BAD);
        due("15 row too long", x.judge(0, 1, 10), BAD);
        due("15 row too long", x.judge(0, 2, 100), BAD);
        due("15 row too long", x.judge(0, 4, 10000), BAD);
        due("15 row below 0", x.judge(0, 4, -1), BAD);
        due("15 news first", x.judge(1, 0, -1), UNKNOWN);
        for (int odd : ODD) {
            due("15 news " + odd, x.judge(odd, 1, 0), UNKNOWN);
            due("15 n " + odd, x.judge(0, odd, 0), BAD);
            due("15 row " + odd, x.judge(0, 1, odd), BAD);
        }
    }

    private static void slots() {
        ToldNineTimes x = Checks.on("D2P000000P000000N910N921N99");
        due("26 none kept", x.again(0), LATE);
        x.tell(0, 0);
        x.hour();
        due("25 kept", x.keep(1), 1);
        due("25 acts stay", x.about(4), 2);
        due("26 not the other", x.again(0), LATE);
        x.tell(1, 0);
        x.tell(1, 1);
        x.hour();
        due("25 kept, too", x.keep(0), 2);
        x.tell(0, 0);
        due("26 gone on from", x.again(1), 1);
        due("26 no acts", x.about(4), 0);
        due("26 nothing to undo", x.undo(), LATE);
        due("26 tellings", x.about(5), 1);
        due("26 who knows", x.news(1, 3), 2);
        due("26 halves", x.news(2, 3), 2);
        due("26 left", x.left(0, 0), 8);
        due("26 told", x.told(1, 0), 0);
        x.tell(0, 0);
        x.tell(0, 0);
        due("26 three at a place", x.may(0, 0), 0);
        due("26 once more", x.again(1), 1);
        due("26 told at a place once", x.judge(0, 3, 0), 2);
        due("26 the other", x.again(0), 2);
        due("26 its tellings", x.about(5), 3);
        due("26 its halves", x.news(2, 3), 3);
        due("25 over what was kept", x.keep(1), 2);
        due("26 what was kept last", x.again(1), 2);
        due("25 slot", x.keep(2), UNKNOWN);
        due("26 slot", x.again(2), UNKNOWN);
        for (int odd : ODD) {
            due("25 slot " + odd, x.keep(odd), UNKNOWN);
            due("26 slot " + odd, x.again(odd), UNKNOWN);
        }
    }
}
