/** The edges of THE TEXT, its FAULT and THE DAY: the terms, and promises 1 to 8. */
public final class TextEdgeTest {
    private static final Checks CHECKS = new Checks();
    private static final int UNKNOWN = ToldNineTimes.UNKNOWN, BAD = ToldNineTimes.BAD, LATE = ToldNineTimes.LATE;
    private static final int FULL = ToldNineTimes.FULL, NONE = ToldNineTimes.NONE;
    private static final int LONGEST = 72;

    /** As long as a day can be: 71 bytes. */
    private static final String LONGEST_DAY =
        "D2P012-01P------P222222P101010P-0-1-2P000000N09012345N90543210N55104352";

    public static void main(String[] args) {
        atFirst();
        oneToEightBytes();
        lowestBytesHighestFirst();
        bytesWithTheirHighestBit();
        seventyTwoBytes();
        wiped();
        firstByte();
        law();
        noParts();
        signsOfPlaces();
        sixSignsOfPlaces();
        sixPeople();
        threeNews();
        figuresOfNews();
        personsToldAhead();
        noneTwice();
        onlyNotAtItsEnd();
        everyByteAtEveryPlace();
        firstOfTwoFaults();
        lengthSetAside();
        numberedAsTheyAreTold();
        howManyPeople();
        hourAndActsOfANewDay();
        slotsAndSightsOfANewDay();
        textStaysBehindTheDay();
        whatOfAbout();
        worths();
        whereToTheEdge();
        whatOfNews();
        CHECKS.end();
    }

    private static void due(String call, long got, long want) {
        CHECKS.due(call, got, want);
    }

    private static ToldNineTimes with(String text) {
        ToldNineTimes x = new ToldNineTimes();
        Checks.writeText(x, text);
        return x;
    }

    private static void fault(String why, String text, int want) {
        ToldNineTimes x = with(text);
        due("4 " + why + ": fault of " + text, x.fault(), want);
        if (want != NONE) {
            due("5 " + why + ": day of " + text, x.day(), LATE);
        } else {
            CHECKS.dueAll("5 " + why + ": day of " + text, x.day() >= 0);
        }
    }

    private static String repeated(String part, int times) {
        StringBuilder text = new StringBuilder();
        for (int i = 0; i < times; i++) {
            text.append(part);
        }
        return text.toString();
    }

    // ---- promise 1

    private static void atFirst() {
        ToldNineTimes x = new ToldNineTimes();
        due("1 nobody", x.about(0), 0);
        due("1 nothing", x.about(1), 0);
        due("1 by law 0", x.about(2), 0);
        due("1 the hour is 0", x.about(3), 0);
        due("1 no text", x.about(8), 0);
        due("1 person 0", x.where(0, 0), UNKNOWN);
        due("1 news 0", x.news(0, 0), UNKNOWN);
        due("1 an hour may go by", x.hour(), 1);
        due("1 and be undone", x.undo(), 0);
    }

    // ---- promises 2 and 3

    private static void oneToEightBytes() {
        for (int n = -1; n <= 10; n++) {
            ToldNineTimes x = new ToldNineTimes();
            boolean good = n >= 1 && n <= 8;
            due("2 n bytes, n = " + n, x.write(n, 0), good ? n : BAD);
            due("2 how long it is then", x.about(8), good ? n : 0);
        }
    }

    private static void lowestBytesHighestFirst() {
        String text = "D1P012-21";
        for (int n = 1; n <= 8; n++) {
            ToldNineTimes x = new ToldNineTimes();
            for (int at = 0; at < text.length(); at += n) {
                String some = text.substring(at, Math.min(text.length(), at + n));
                // What stands above the lowest ones is not looked at.
                long above = some.length() == 8 ? 0 : 0x5A5A_5A5A_5A5A_5A5AL << 8 * some.length();
                due("2 by " + n, x.write(some.length(), above | Checks.valueOf(some)), at + some.length());
            }
            due("2 the day by " + n, x.day(), 1);
            due("2 its law", x.about(2), 1);
            int[] places = {0, 1, 2, NONE, 2, 1};
            for (int hour = 0; hour < 6; hour++) {
                due("2 its places", x.where(0, hour), places[hour]);
            }
        }
    }

    private static void bytesWithTheirHighestBit() {
        for (int n = 1; n <= 8; n++) {
            ToldNineTimes x = new ToldNineTimes();
            x.write(2, Checks.valueOf("D0"));
            due("2 bytes of 255", x.write(n, -1L), 2 + n);
            due("4 the first of them is the fault", x.fault(), 2);
        }
        ToldNineTimes x = new ToldNineTimes();
        x.write(2, Checks.valueOf("D0"));
        x.write(8, Long.MIN_VALUE);
        due("4 a byte of 128 is no other sign", x.fault(), 2);
        fault("D with its highest bit", "\u00c40", 0);
        fault("0 with its highest bit", "D\u00b0", 1);
        fault("P with its highest bit", "D0\u00d0000000", 2);
        fault("- with its highest bit", "D0P\u00ad", 3);
    }

    private static void seventyTwoBytes() {
        for (int n = 1; n <= 8; n++) {
            ToldNineTimes x = new ToldNineTimes();
            for (int i = 0; i < LONGEST - n; i++) {
                x.write(1, 'D');
            }
            due("2 up to 72 by " + n, x.write(n, 0), LONGEST);
            due("2 one more", x.write(1, 0), FULL);
            due("2 nothing comes", x.about(8), LONGEST);
            x.wipe();
            for (int i = 0; i < LONGEST - n + 1; i++) {
                x.write(1, 'D');
            }
            due("2 up to 73 by " + n, x.write(n, 0), FULL);
            due("2 nothing comes, not a part either", x.about(8), LONGEST - n + 1);
        }
    }

    private static void wiped() {
        ToldNineTimes x = new ToldNineTimes();
        due("3 it was empty", x.wipe(), 0);
        for (int i = 1; i <= 9; i++) {
            x.write(8, -1L);
        }
        due("3 it was 72 long", x.wipe(), 72);
        due("3 it is empty", x.about(8), 0);
        due("4 the fault of an empty text is its length", x.fault(), 0);
        due("5 an empty text is no day", x.day(), LATE);
        due("2 there is room again", x.write(1, 'D'), 1);
        due("3 one", x.wipe(), 1);
        x.write(2, Checks.valueOf("D1"));
        due("5 nothing of it stays", x.day(), 0);
        due("5 nothing of it stays: fault", x.fault(), NONE);
    }

    // ---- promise 4: FAULT

    private static void firstByte() {
        for (int sign = 0; sign < 256; sign++) {
            fault("D", (char) sign + "", sign == 'D' ? 1 : 0);
            fault("D", (char) sign + "0", sign == 'D' ? NONE : 0);
        }
    }

    private static void law() {
        for (int sign = 0; sign < 256; sign++) {
            fault("law 0 .. 2", "D" + (char) sign, sign >= '0' && sign <= '2' ? NONE : 1);
        }
        for (int law = 0; law <= 2; law++) {
            due("5 law " + law, Checks.on("D" + law).about(2), law);
        }
    }

    private static void noParts() {
        fault("parts, none", "D0", NONE);
        fault("a part is P or N", "D0D0", 2);
        fault("a part is P or N", "D0O", 2);
        fault("a part is P or N", "D0Q", 2);
        fault("a part is P or N", "D0M", 2);
        fault("a part is P or N", "D0n", 2);
        fault("a part is P or N", "D0p", 2);
        fault("a part is P or N", "D0-", 2);
        fault("a part is P or N", "D0 ", 2);
        for (int sign = 0; sign < 256; sign++) {
            boolean part = sign == 'P' || sign == 'N';
            fault("a part is P or N", "D0" + (char) sign, part ? 3 : 2);
        }
    }

    private static void signsOfPlaces() {
        for (int hour = 0; hour < 6; hour++) {
            for (int sign = 0; sign < 256; sign++) {
                String text = "D0P" + repeated("-", hour) + (char) sign + repeated("2", 5 - hour);
                boolean good = sign == '-' || sign >= '0' && sign <= '2';
                fault("places 0 .. 2 and -, hour " + hour, text, good ? NONE : 3 + hour);
            }
        }
    }

    private static void sixSignsOfPlaces() {
        fault("five signs", "D0P00000", 8);
        fault("six signs", "D0P000000", NONE);
        fault("seven signs", "D0P0000000", 9);
        fault("seven signs", "D0P000000-", 9);
        fault("a part ahead of the sixth sign", "D0P00000P000000", 8);
        fault("a part ahead of the sixth sign", "D0P00000N00", 8);
    }

    private static void sixPeople() {
        String five = "D0" + repeated("P000000", 5);
        fault("five people", five, NONE);
        fault("six people", five + "P000000", NONE);
        fault("seven people", five + "P000000P", 44);
        fault("seven people", five + "P000000P000000", 44);
        fault("seven people behind news", five + "P000000N00P", 47);
        due("5 six people", Checks.on(five + "P000000").about(0), 6);
    }

    private static void threeNews() {
        fault("two news", "D0N00N00", NONE);
        fault("three news", "D0N00N00N00", NONE);
        fault("four news", "D0N00N00N00N", 11);
        fault("four news", "D0N00N00N00N00", 11);
        fault("four news behind a person", "D0N00N00N00P000000N", 18);
        due("5 three news", Checks.on("D0N00N00N00").about(1), 3);
    }

    private static void figuresOfNews() {
        for (int sign = 0; sign < 256; sign++) {
            boolean figure = sign >= '0' && sign <= '9';
            fault("told t times, 0 .. 9", "D0N" + (char) sign + "0", figure ? NONE : 3);
            fault("worth 0 .. 9", "D0N0" + (char) sign, figure ? NONE : 4);
        }
        fault("no t", "D0N", 3);
        fault("no w", "D0N0", 4);
        for (int figure = 0; figure <= 9; figure++) {
            ToldNineTimes x = Checks.on("D0N" + figure + (9 - figure));
            due("8 told " + figure + " times", x.news(0, 0), figure);
            due("8 worth " + (9 - figure), x.news(0, 1), 9 - figure);
        }
    }

    private static void personsToldAhead() {
        for (int people = 0; people <= 6; people++) {
            String text = "D0" + repeated("P000000", people) + "N99";
            for (int figure = 0; figure <= 9; figure++) {
                int want = figure < people ? NONE : text.length();
                fault("persons told ahead of it", text + figure, want);
            }
        }
        fault("told behind it", "D0N990P000000", 5);
        fault("told behind it", "D0P000000N991P000000", 12);
        fault("told ahead of the next one", "D0P000000N99P000000N9910", NONE);
        fault("none know it", "D0P000000N99", NONE);
        fault("all six know it", "D0" + repeated("P000000", 6) + "N99504132", NONE);
        due("8 all six know it", Checks.on("D0" + repeated("P000000", 6) + "N99504132").news(0, 4), 63);
    }

    private static void noneTwice() {
        String text = "D0" + repeated("P000000", 6) + "N99";
        for (int person = 0; person < 6; person++) {
            fault("none twice", text + person + person, text.length() + 1);
            fault("none twice", text + person + (5 - person) + person, text.length() + 2);
        }
        fault("none twice, all six", text + "0123450", text.length() + 6);
        fault("once for each news", text + "0N990N990", NONE);
    }

    private static void onlyNotAtItsEnd() {
        for (int length = 0; length <= LONGEST_DAY.length(); length++) {
            String text = LONGEST_DAY.substring(0, length);
            fault("its length, if it is only not at its end", text, PlainModel.isDay(text) ? NONE : length);
        }
    }

    private static void everyByteAtEveryPlace() {
        for (int at = 0; at < LONGEST_DAY.length(); at++) {
            String ahead = LONGEST_DAY.substring(0, at);
            for (int sign = 0; sign < 256; sign++) {
                String start = ahead + (char) sign;
                if (!PlainModel.canBecomeDay(start)) {
                    fault("the first byte by which it can be none", start + LONGEST_DAY.substring(at + 1), at);
                }
            }
        }
    }

    private static void firstOfTwoFaults() {
        fault("the first of two", "E3", 0);
        fault("the first of two", "D3X", 1);
        fault("the first of two", "D0X3", 2);
        fault("the first of two", "D0P03000-3", 4);
        fault("the first of two", "D0N:/", 3);
        fault("what comes behind it makes nothing good", "D0P00000D0P000000", 8);
    }

    private static void lengthSetAside() {
        due("the longest day", LONGEST_DAY.length(), 71);
        fault("71 bytes", LONGEST_DAY, NONE);
        fault("72 bytes, each one too many", LONGEST_DAY + "P", 71);
        fault("72 bytes, each one too many", LONGEST_DAY + "N", 71);
        fault("72 bytes, each one too many", LONGEST_DAY + "0", 71);
        ToldNineTimes x = Checks.on(LONGEST_DAY);
        due("5 six people", x.about(0), 6);
        due("5 three news", x.about(1), 3);
        Checks.remake(x, "D2" + repeated("P000000", 6) + "N09N90N55104352");
        due("8 the last byte counts", x.news(2, 4), 63);
        Checks.remake(x, "D2" + repeated("P000000", 6) + "N09N90N5510435");
        due("8 the last byte is not there", x.news(2, 4), 63 & ~4);
    }

    // ---- promise 5

    private static void numberedAsTheyAreTold() {
        ToldNineTimes x = Checks.on("D0N12P000000N340P111111P222222N5621");
        int[] limits = {1, 3, 5};
        int[] firsts = {0, 1, 6};
        for (int i = 0; i < 3; i++) {
            due("5 person " + i, x.where(i, 0), i);
            due("5 news " + i, x.news(i, 0), limits[i]);
            due("5 worth " + i, x.news(i, 1), limits[i] + 1);
            due("5 who knows it " + i, x.news(i, 4), firsts[i]);
        }
    }

    private static void howManyPeople() {
        for (int people = 0; people <= 6; people++) {
            ToldNineTimes x = with("D0" + repeated("P------", people));
            due("5 how many people", x.day(), people);
            due("6 people", x.about(0), people);
            due("7 the last one", x.where(people - 1, 0), people == 0 ? UNKNOWN : NONE);
            due("7 no more", x.where(people, 0), UNKNOWN);
        }
    }

    private static void hourAndActsOfANewDay() {
        ToldNineTimes x = Checks.on("D0P000000P000000N910");
        x.tell(0, 0);
        Checks.hours(x, 5);
        due("5 made anew", x.day(), 2);
        due("5 the hour is 0", x.about(3), 0);
        due("5 no acts", x.about(4), 0);
        due("5 nothing to undo", x.undo(), LATE);
        due("5 no tellings", x.about(5), 0);
        due("5 who knew it at first", x.news(0, 3), 1);
        due("5 left anew", x.left(0, 0), 9);
        Checks.remake(x, "D1P000000P000000N910");
        x.tell(0, 0);
        x.day();
        due("5 told by nobody yet, by law 1", x.may(0, 0), 1);
        Checks.remake(x, "D2P000000P000000N910");
        for (int i = 0; i < 3; i++) {
            x.tell(0, 0);
        }
        x.day();
        due("5 told nowhere yet, by law 2", x.judge(0, 3, 0), NONE);
    }

    private static void slotsAndSightsOfANewDay() {
        ToldNineTimes x = Checks.on("D0P000000P000000N910");
        x.keep(0);
        x.keep(1);
        for (int i = 0; i < 8; i++) {
            x.sight(5, 1, true);
        }
        x.write(1, 'X');
        due("5 a fault", x.day(), LATE);
        due("5 refused: what was kept is there", x.again(0), 0);
        due("5 refused: what was kept is there", x.again(1), 0);
        Checks.remake(x, "D0P000000N91");
        due("5 what was kept is gone", x.again(0), LATE);
        due("5 what was kept is gone", x.again(1), LATE);
        due("5 sights stay", x.about(7), 8);
        due("5 they are looked at", x.rows(0), 0);
        due("23 all eight", x.unsee(), 8);
        due("24 none any more", x.rows(0), 1);
    }

    private static void textStaysBehindTheDay() {
        ToldNineTimes x = with("D0");
        due("5 nobody", x.day(), 0);
        due("2 it goes on behind that text", x.write(7, Checks.valueOf("P012---")), 9);
        due("5 not yet in the day", x.about(0), 0);
        due("4 no fault", x.fault(), NONE);
        due("5 one", x.day(), 1);
        x.wipe();
        due("3 the day stays without its text", x.where(0, 2), 2);
        due("3 a law stays", Checks.on("D2").about(2), 2);
    }

    // ---- promises 6 to 8

    private static void whatOfAbout() {
        ToldNineTimes x = Checks.on("D2P000000P000000N930N910");
        x.tell(0, 0);
        x.tell(1, 0);
        x.hour();
        x.sight(0, 0, true);
        int[] want = {BAD, 2, 2, 2, 1, 3, 2, 7, 1, 24, BAD};
        for (int what = -1; what <= 9; what++) {
            due("6 about " + what, x.about(what), want[what + 1]);
        }
    }

    private static void worths() {
        String six = repeated("P000000", 6);
        due("6 worth 0", Checks.on("D0" + six + "N90012345").about(6), 0);
        due("6 nobody knows it", Checks.on("D0" + six + "N99N99N99").about(6), 0);
        due("6 one knows one", Checks.on("D0" + six + "N995").about(6), 9);
        due("6 all know all", Checks.on("D0" + six + "N99012345N99012345N99012345").about(6), 162);
        due("6 all know all by halves", Checks.on("D0" + six + "N99012345N99012345N99").about(6), 162);
        due("6 one half is one", Checks.on("D0" + six + "N99012345N01N99").about(6), 54);
    }

    private static void whereToTheEdge() {
        ToldNineTimes x = Checks.on("D0P0-----P-----2");
        int[] first = {BAD, 0, NONE, NONE, NONE, NONE, NONE, BAD};
        int[] second = {BAD, NONE, NONE, NONE, NONE, NONE, 2, BAD};
        for (int hour = -1; hour <= 6; hour++) {
            due("7 where 0 in " + hour, x.where(0, hour), first[hour + 1]);
            due("7 where 1 in " + hour, x.where(1, hour), second[hour + 1]);
            due("7 where -1 in " + hour, x.where(-1, hour), UNKNOWN);
            due("7 where 2 in " + hour, x.where(2, hour), UNKNOWN);
        }
        Checks.hours(x, 5);
        due("7 whatever the hour is", x.where(0, 0), 0);
    }

    private static void whatOfNews() {
        ToldNineTimes x = Checks.on("D0P000000P000000P------N370N452");
        x.tell(0, 0);
        int[] first = {BAD, 3, 7, 1, 3, 1, BAD};
        int[] second = {BAD, 4, 5, 0, 4, 4, BAD};
        for (int what = -1; what <= 5; what++) {
            due("8 news 0, " + what, x.news(0, what), first[what + 1]);
            due("8 news 1, " + what, x.news(1, what), second[what + 1]);
            due("8 news -1, " + what, x.news(-1, what), UNKNOWN);
            due("8 news 2, " + what, x.news(2, what), UNKNOWN);
        }
    }
}
