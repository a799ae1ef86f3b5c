/** Promises 1 to 10: the day. */
public final class DayTest {
    private static final Checks CHECKS = new Checks();
    private static final int UNKNOWN = ToldNineTimes.UNKNOWN, BAD = ToldNineTimes.BAD, LATE = ToldNineTimes.LATE;
    private static final int FULL = ToldNineTimes.FULL, NONE = ToldNineTimes.NONE;
    private static final int[] ODD = {-1, Integer.MIN_VALUE, Integer.MAX_VALUE, 64, 1 << 16};

    public static void main(String[] args) {
        newObject();
        writes();
        wipes();
        faults();
        faultsOfLongTexts();
        days();
        dayMadeAnew();
        abouts();
        places();
        newsOfDay();
        halvesAtFirst();
        toldAndLeft();
        CHECKS.end();
    }

    private static void due(String call, long got, long want) {
        CHECKS.due(call, got, want);
    }

    private static void newObject() {
        ToldNineTimes x = new ToldNineTimes();
        for (int what = 0; what <= 8; what++) {
            due("1 new: about " + what, x.about(what), 0);
        }
        due("1 new: where", x.where(0, 0), UNKNOWN);
        due("1 new: news", x.news(0, 0), UNKNOWN);
        due("1 new: told", x.told(0, 0), UNKNOWN);
        due("1 new: left", x.left(0, 0), UNKNOWN);
        due("1 new: may", x.may(0, 0), UNKNOWN);
        due("1 new: tell", x.tell(0, 0), UNKNOWN);
        due("1 new: undo", x.undo(), LATE);
        due("1 new: judge", x.judge(0, 1, 0), UNKNOWN);
        due("1 new: fewest", x.fewest(0, 0), UNKNOWN);
        due("1 new: planAt", x.planAt(0, 0, 0), UNKNOWN);
        due("1 new: most", x.most(0), UNKNOWN);
        due("1 new: spent", x.spent(0, 0), UNKNOWN);
        due("1 new: duel", x.duel(0, 0), UNKNOWN);
        due("1 new: chance", x.chance(0, 0, 0, 0, true), UNKNOWN);
        due("1 new: sight", x.sight(0, 0, true), UNKNOWN);
        due("1 new: unsee", x.unsee(), 0);
        due("1 new: rows", x.rows(0), UNKNOWN);
        due("1 new: again", x.again(0), LATE);
        due("1 new: keep", x.keep(0), 0);
        due("1 new: again when kept", x.again(0), 0);
    }

    private static void writes() {
        ToldNineTimes x = new ToldNineTimes();
        due("2 n 0", x.write(0, 5), BAD);
        due("2 n 9", x.write(9, 5), BAD);
        for (int n : ODD) {
            due("2 n " + n, x.write(n, 5), BAD);
        }
        due("2 nothing came", x.about(8), 0);
        due("2 lowest bytes, the highest of these first", x.write(2, 0x7777_7777_7777_4431L), 2);
        due("2 they are a day", x.day(), 0);
        due("2 of law 1", x.about(2), 1);
        due("2 eight", x.write(8, -1L), 10);
        due("2 a byte of 255 is a fault", x.fault(), 2);
        for (int length = 18; length <= 66; length += 8) {
            due("2 eight more", x.write(8, 0x8000_0000_0000_0000L), length);
        }
        due("2 seven too many", x.write(7, 0), FULL);
        due("2 BAD is told ahead of FULL", x.write(9, 0), BAD);
        due("2 up to 72", x.write(6, 0), 72);
        due("2 one too many", x.write(1, 0), FULL);
        due("2 nothing came", x.about(8), 72);
        due("2 the fault is the same", x.fault(), 2);
    }

    private static void wipes() {
        ToldNineTimes x = new ToldNineTimes();
        due("3 empty", x.wipe(), 0);
        Checks.writeText(x, "D0P000000");
        due("3 nine", x.wipe(), 9);
        due("3 empty again", x.wipe(), 0);
        due("3 fault of nothing", x.fault(), 0);
        due("3 the day stays", x.day(), LATE);
        Checks.remake(x, "D2P000000");
        x.wipe();
        due("3 the day stays", x.about(0), 1);
        Checks.writeText(x, "D0");
        due("3 what was wiped does not come back", x.day(), 0);
    }

    private static void fault(String text, int want) {
        ToldNineTimes x = new ToldNineTimes();
        Checks.writeText(x, text);
        due("4 fault of " + text, x.fault(), want);
        due("4 fault of " + text + " again", x.fault(), want);
        due("5 day of " + text, Math.min(0, x.day()), want == NONE ? 0 : LATE);
    }

    private static void faults() {
        fault("", 0);
        fault("d", 0);
        fault("P", 0);
        fault("D", 1);
        fault("D0", NONE);
        fault("D2", NONE);
        fault("D3", 1);
        fault("D-", 1);
        fault("D/", 1);
        fault("D00", 2);
        fault("D0p", 2);
        fault("D0P", 3);
        fault("D0P0", 4);
        fault("D0P00000", 8);
        fault("D0P000000", NONE);
        fault("D0P------", NONE);
        fault("D0P012-3-", 7);
        fault("D0P01P", 5);
        fault("D0P0000000", 9);
        fault("D0P000000-", 9);
        fault("D0N", 3);
        fault("D0N9", 4);
        fault("D0N90", NONE);
        fault("D0N-0", 3);
        fault("D0N9-", 4);
        fault("D0N9:", 4);
        fault("D0N900", 5);
        fault("D0N90P000000N900", NONE);
        fault("D0P000000N9900", 13);
        fault("D0P000000N991", 12);
        fault("D0P000000P000000N9910", NONE);
        fault("D0P000000P000000N99101", 21);
        fault("D0P000000N990P000000N9901N991", NONE);
        fault("D0P000000N990P000000N9901N992", 28);
        fault("D0N99N99N99", NONE);
        fault("D0N99N99N99N", 11);
        fault("D0N99N99N99P000000", NONE);
        fault("D0\u0000", 2);
        fault("D0N\u00b90", 3);
    }

    private static void faultsOfLongTexts() {
        StringBuilder text = new StringBuilder("D0");
        for (int i = 0; i < 6; i++) {
            text.append("P01201-");
        }
        fault(text.toString(), NONE);
        fault(text + "P", 44);
        fault(text + "N990123456", 53);
        text.append("N99012345N00543210N12302154");
        fault(text.toString(), NONE);
        fault(text + "N", 71);
        fault(text + "6", 71);
    }

    private static void days() {
        ToldNineTimes x = new ToldNineTimes();
        due("5 no text", x.day(), LATE);
        Checks.writeText(x, "D1P000000P111111N990");
        due("5 two people", x.day(), 2);
        due("5 the text stays", x.about(8), 20);
        Checks.writeText(x, "x");
        x.hour();
        due("5 a fault", x.day(), LATE);
        due("5 and nothing is changed: people", x.about(0), 2);
        due("5 and nothing is changed: law", x.about(2), 1);
        due("5 and nothing is changed: hour", x.about(3), 1);
        due("5 and nothing is changed: where", x.where(1, 5), 1);
        due("5 and nothing is changed: first", x.news(0, 4), 1);
    }

    private static void dayMadeAnew() {
        ToldNineTimes x = Checks.on("D0P000000P000000N990");
        x.tell(0, 0);
        x.hour();
        x.keep(0);
        x.keep(1);
        x.sight(0, 1, true);
        due("5 made anew", x.day(), 2);
        due("5 no acts", x.about(4), 0);
        due("5 no tellings", x.about(5), 0);
        due("5 the hour is 0", x.about(3), 0);
        due("5 who knows it", x.news(0, 3), 1);
        due("5 who told it", x.told(0, 0), 0);
        due("5 what is left", x.left(0, 0), 9);
        due("5 slot 0 is gone", x.again(0), LATE);
        due("5 slot 1 is gone", x.again(1), LATE);
        due("5 sights stay", x.about(7), 1);
        due("5 nothing to undo", x.undo(), LATE);
        Checks.remake(x, "D0");
        due("5 nobody", x.about(0), 0);
        due("5 nothing", x.about(1), 0);
        Checks.remake(x, "D0P------N12");
        due("5 nobody knows it any more", x.news(0, 4), 0);
    }

    private static void abouts() {
        ToldNineTimes x = Checks.on("D2P000000P000000P1-----N930N451N27");
        due("6 people", x.about(0), 3);
        due("6 news", x.about(1), 3);
        due("6 law", x.about(2), 2);
        due("6 worth: each that knows it counts", x.about(6), 3 + 5);
        x.tell(0, 0);
        due("6 worth with halves", x.about(6), 3 + 3 + 5 + 7);
        x.tell(1, 1);
        x.tell(1, 1);
        due("6 worth of all", x.about(6), 2 * (3 + 5 + 7));
        due("6 tellings of all", x.about(5), 3);
        x.hour();
        due("6 hour", x.about(3), 1);
        due("6 acts", x.about(4), 4);
        x.sight(0, 0, true);
        x.sight(0, 0, true);
        due("6 sights", x.about(7), 2);
        due("6 bytes", x.about(8), 34);
        due("6 what 9", x.about(9), BAD);
        for (int what : ODD) {
            due("6 what " + what, x.about(what), BAD);
        }
    }

    private static void places() {
        ToldNineTimes x = Checks.on("D0P01200-P-21012");
        int[] first = {0, 1, 2, 0, 0, NONE};
        int[] second = {NONE, 2, 1, 0, 1, 2};
        for (int hour = 0; hour < 6; hour++) {
            due("7 where 0 " + hour, x.where(0, hour), first[hour]);
            due("7 where 1 " + hour, x.where(1, hour), second[hour]);
        }
        due("7 hour 6", x.where(0, 6), BAD);
        due("7 hour -1", x.where(0, -1), BAD);
        due("7 person 2", x.where(2, 0), UNKNOWN);
        due("7 person and hour", x.where(2, 6), UNKNOWN);
        for (int odd : ODD) {
            due("7 person " + odd, x.where(odd, 0), UNKNOWN);
            due("7 hour " + odd, x.where(1, odd), BAD);
        }
    }

    private static void newsOfDay() {
        ToldNineTimes x = Checks.on("D0P000000P000000N371N09");
        due("8 how often", x.news(0, 0), 3);
        due("8 worth", x.news(0, 1), 7);
        due("8 told", x.news(0, 2), 0);
        due("8 knows", x.news(0, 3), 2);
        due("8 first", x.news(0, 4), 2);
        due("8 how often", x.news(1, 0), 0);
        due("8 worth", x.news(1, 1), 9);
        x.tell(1, 0);
        x.tell(0, 0);
        due("8 told twice", x.news(0, 2), 2);
        due("8 both know", x.news(0, 3), 3);
        due("8 first still", x.news(0, 4), 2);
        due("8 no such news", x.news(2, 0), UNKNOWN);
        due("8 what 5", x.news(0, 5), BAD);
        due("8 what -1", x.news(0, -1), BAD);
        due("8 both", x.news(2, 5), UNKNOWN);
        for (int odd : ODD) {
            due("8 news " + odd, x.news(odd, 0), UNKNOWN);
            due("8 what " + odd, x.news(0, odd), BAD);
        }
    }

    private static void halvesAtFirst() {
        ToldNineTimes x = Checks.on("D0P000000P111111P222222N1101N1112N112");
        due("halves at first", x.news(2, 4), 6);
        due("halves when the day is made", x.news(2, 3), 6);
        Checks.remake(x, "D0P000000P000000N1101N1101");
        due("no halves without news 2", x.news(2, 3), UNKNOWN);
    }

    private static void toldAndLeft() {
        ToldNineTimes x = Checks.on("D0P000000P011111P001---N951N910");
        due("9 told", x.told(1, 0), 0);
        due("10 left", x.left(1, 0), 9);
        due("10 does not know it", x.left(0, 0), LATE);
        x.tell(1, 0);
        x.tell(1, 0);
        x.tell(2, 0);
        x.hour();
        x.tell(0, 0);
        due("9 told twice", x.told(1, 0), 2);
        due("9 told once", x.told(2, 0), 1);
        due("9 told once", x.told(0, 0), 1);
        due("9 the other news", x.told(1, 1), 0);
        due("10 who was at all", x.left(0, 0), 5);
        due("10 who went away", x.left(1, 0), 6);
        due("10 who heard all", x.left(2, 0), 5);
        due("10 the other news", x.left(0, 1), 9);
        due("10 not the other news", x.left(2, 1), LATE);
        due("9 person", x.told(3, 0), UNKNOWN);
        due("9 news", x.told(0, 2), UNKNOWN);
        due("10 person", x.left(3, 0), UNKNOWN);
        due("10 news", x.left(0, 2), UNKNOWN);
        for (int odd : ODD) {
            due("9 person " + odd, x.told(odd, 0), UNKNOWN);
            due("9 news " + odd, x.told(0, odd), UNKNOWN);
            due("10 person " + odd, x.left(odd, 0), UNKNOWN);
            due("10 news " + odd, x.left(0, odd), UNKNOWN);
        }
    }
}
