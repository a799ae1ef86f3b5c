import java.util.Arrays;

/**
 * News that may be told so often in all, among people who are in places by the hour.
 * What each call promises stands in the document; here the comments say why it is done so.
 */
public final class ToldNineTimes {
    public static final int UNKNOWN = -1, BAD = -2, LATE = -3, FULL = -4, NONE = -9;

    private static final int MOST_PEOPLE = 6;
    private static final int MOST_NEWS = 3;
    private static final int PLACES = 3;
    private static final int HOURS = 6;
    private static final int LAST_HOUR = HOURS - 1;
    private static final int LAWS = 3;
    private static final int FIGURES = 10;
    private static final int MOST_BYTES = 72;
    private static final int MOST_WRITTEN = 8;
    private static final int MOST_ACTS = 16;
    private static final int MOST_SIGHTS = 8;
    private static final int MOST_JUDGED = 4;
    private static final int SLOTS = 2;
    private static final int TELLINGS_AT_PLACE = 3;
    private static final int PEOPLE_SETS = 1 << MOST_PEOPLE;
    private static final int PLACE_SETS = 1 << PLACES;

    private final Script script;
    private final Standing now;
    private final Standing trial;
    private final Standing[] slots;
    private final Acts acts;
    private final Sights sights;
    private final Outlook outlook;
    private Day today;
    private Day draft;

    public ToldNineTimes() {
        script = new Script();
        now = new Standing();
        trial = new Standing();
        slots = new Standing[SLOTS];
        for (int i = 0; i < SLOTS; i++) {
            slots[i] = new Standing();
        }
        acts = new Acts();
        sights = new Sights();
        today = new Day();
        draft = new Day();
        outlook = new Outlook(today);
    }

    // ---- the day

    public int write(int n, long v) {
        if (n < 1 || n > MOST_WRITTEN) {
            return BAD;
        }
        if (script.length + n > MOST_BYTES) {
            return FULL;
        }
        for (int i = n - 1; i >= 0; i--) {
            script.append((int) (v >>> (8 * i)) & 255);
        }
        return script.length;
    }

    public int wipe() {
        int length = script.length;
        script.length = 0;
        return length;
    }

    public int fault() {
        return script.readInto(draft);
    }

    public int day() {
        if (script.readInto(draft) != NONE) {
            return LATE;
        }
        Day made = draft;
        draft = today;
        today = made;
        now.beginWith(today);
        acts.count = 0;
        for (int i = 0; i < SLOTS; i++) {
            slots[i].kept = false;
        }
        return today.people;
    }

    public int about(int what) {
        switch (what) {
            case 0: return today.people;
            case 1: return today.newsCount;
            case 2: return today.law;
            case 3: return now.hour;
            case 4: return acts.count;
            case 5: return tellingsOfAll();
            case 6: return worthOfAll();
            case 7: return sights.count;
            case 8: return script.length;
            default: return BAD;
        }
    }

    public int where(int person, int hour) {
        if (!isPerson(person)) {
            return UNKNOWN;
        }
        return isHour(hour) ? today.placeOf(person, hour) : BAD;
    }

    public int news(int news, int what) {
        if (!isNews(news)) {
            return UNKNOWN;
        }
        switch (what) {
            case 0: return today.limits[news];
            case 1: return today.worths[news];
            case 2: return now.tellingsOf(news);
            case 3: return now.known[news];
            case 4: return today.firsts[news];
            default: return BAD;
        }
    }

    public int told(int person, int news) {
        if (!isPerson(person) || !isNews(news)) {
            return UNKNOWN;
        }
        return now.tellings[person * MOST_NEWS + news];
    }

    public int left(int person, int news) {
        if (!isPerson(person) || !isNews(news)) {
            return UNKNOWN;
        }
        if (!now.knows(person, news)) {
            return LATE;
        }
        return today.limits[news] - now.attended[person * MOST_NEWS + news];
    }

    // ---- acts

    public int may(int person, int news) {
        if (!isPerson(person) || !isNews(news)) {
            return UNKNOWN;
        }
        return now.allows(today, person, news) ? 1 : 0;
    }

    public int tell(int person, int news) {
        if (!isPerson(person) || !isNews(news)) {
            return UNKNOWN;
        }
        if (!now.allows(today, person, news)) {
            return LATE;
        }
        acts.append(Acts.telling(person, news, now.packedKnown()));
        return now.spread(today, person, news);
    }

    public int hour() {
        if (now.hour >= LAST_HOUR) {
            return LATE;
        }
        acts.append(Acts.AN_HOUR);
        now.hour++;
        return now.hour;
    }

    public int undo() {
        if (acts.count == 0) {
            return LATE;
        }
        int act = acts.takeLast();
        if (act == Acts.AN_HOUR) {
            now.hour--;
        } else {
            now.count(today, Acts.teller(act), Acts.newsOf(act), -1);
            now.unpackKnown(Acts.packedKnown(act));
        }
        return acts.count;
    }

    public int judge(int news, int n, int row) {
        if (!isNews(news)) {
            return UNKNOWN;
        }
        if (n < 1 || n > MOST_JUDGED || row < 0 || row >= powerOf(FIGURES, n)) {
            return BAD;
        }
        trial.copyFrom(now);
        for (int i = 0; i < n; i++) {
            if (!triedFigure(news, figureOf(row, n - 1 - i))) {
                return i;
            }
        }
        return NONE;
    }

    // ---- plans of one news

    public int fewest(int news, int people) {
        int refusal = refusalOfPlan(news, people);
        return refusal != 0 ? refusal : leastTellings(news, people);
    }

    public int planAt(int news, int people, int i) {
        int refusal = refusalOfPlan(news, people);
        if (refusal != 0) {
            return refusal;
        }
        if (i < 0 || i > LAST_HOUR - now.hour || leastTellings(news, people) == NONE) {
            return NONE;
        }
        return outlook.planned(now.hour, now.known[news], i);
    }

    public int most(int news) {
        if (!isNews(news)) {
            return UNKNOWN;
        }
        if (today.law != 0) {
            return LATE;
        }
        outlook.lookFrom(today, now.known[news], leftOf(news));
        for (int hour = now.hour; hour < HOURS; hour++) {
            outlook.goThrough(hour, 0);
        }
        return outlook.mostKnowing();
    }

    public int spent(int news, int person) {
        if (!isPerson(person) || !isNews(news)) {
            return UNKNOWN;
        }
        if (today.law != 0) {
            return LATE;
        }
        if (now.knows(person, news)) {
            return NONE;
        }
        outlook.lookFrom(today, now.known[news], leftOf(news));
        if (outlook.canBeSpent()) {
            return 0;
        }
        for (int hour = now.hour; hour < HOURS; hour++) {
            outlook.goThrough(hour, 1 << person);
            if (outlook.canBeSpent()) {
                return hour + 1 - now.hour;
            }
        }
        return NONE;
    }

    public int duel(int news, int person) {
        if (!isPerson(person) || !isNews(news)) {
            return UNKNOWN;
        }
        if (today.law != 0) {
            return LATE;
        }
        outlook.want(today, 1 << person);
        return outlook.wonBy(now.hour, now.known[news]) >> leftOf(news) & 1;
    }

    public long chance(int news, int person, int place, int x, boolean upper) {
        if (!isNews(news) || !isPerson(person) || place < 0 || place >= PLACES) {
            return UNKNOWN;
        }
        if (x < 0 || x > 10) {
            return BAD;
        }
        if (now.knows(person, news)) {
            return 1;
        }
        return fraction(10 - x, hoursOfHearing(news, person, place), upper);
    }

    // ---- sights

    public int sight(int hour, int person, boolean knew) {
        if (!isPerson(person)) {
            return UNKNOWN;
        }
        if (!isHour(hour)) {
            return BAD;
        }
        if (sights.count >= MOST_SIGHTS) {
            return FULL;
        }
        sights.see(hour, person, knew);
        return sights.count;
    }

    public int unsee() {
        int count = sights.count;
        sights.forget();
        return count;
    }

    public int rows(int news) {
        if (!isNews(news)) {
            return UNKNOWN;
        }
        outlook.countFrom(today, today.firsts[news], today.limits[news]);
        for (int hour = 0; hour < HOURS; hour++) {
            outlook.countThrough(hour);
            outlook.strikeUnseen(hour, sights);
        }
        return outlook.counted();
    }

    // ---- slots

    public int keep(int slot) {
        if (slot < 0 || slot >= SLOTS) {
            return UNKNOWN;
        }
        slots[slot].copyFrom(now);
        slots[slot].kept = true;
        return now.hour;
    }

    public int again(int slot) {
        if (slot < 0 || slot >= SLOTS) {
            return UNKNOWN;
        }
        if (!slots[slot].kept) {
            return LATE;
        }
        now.copyFrom(slots[slot]);
        acts.count = 0;
        return now.hour;
    }

    // ---- what several calls share

    private boolean isPerson(int person) {
        return person >= 0 && person < today.people;
    }

    private boolean isNews(int news) {
        return news >= 0 && news < today.newsCount;
    }

    private static boolean isHour(int hour) {
        return hour >= 0 && hour < HOURS;
    }

    private int leftOf(int news) {
        return today.limits[news] - now.tellingsOf(news);
    }

    private int tellingsOfAll() {
        int sum = 0;
        for (int news = 0; news < today.newsCount; news++) {
            sum += now.tellingsOf(news);
        }
        return sum;
    }

    /** Each one that knows a news counts its worth once: the sum goes over people and news. */
    private int worthOfAll() {
        int sum = 0;
        for (int news = 0; news < today.newsCount; news++) {
            sum += today.worths[news] * Integer.bitCount(now.known[news]);
        }
        return sum;
    }

    /** Carries out one figure of a judged row on the trial; false: it may not be. */
    private boolean triedFigure(int news, int figure) {
        if (figure == FIGURES - 1) {
            if (trial.hour >= LAST_HOUR) {
                return false;
            }
            trial.hour++;
            return true;
        }
        if (!isPerson(figure) || !trial.allows(today, figure, news)) {
            return false;
        }
        trial.spread(today, figure, news);
        return true;
    }

    /** 0: a plan for these people can be asked for. */
    private int refusalOfPlan(int news, int people) {
        if (!isNews(news)) {
            return UNKNOWN;
        }
        if (people < 0 || people >= 1 << today.people) {
            return BAD;
        }
        return today.law != 0 ? LATE : 0;
    }

    private int leastTellings(int news, int people) {
        outlook.want(today, people);
        int least = outlook.need(now.hour, now.known[news]);
        return least <= leftOf(news) ? least : NONE;
    }

    /** In how many hours from now on the person should be where somebody tells it. */
    private int hoursOfHearing(int news, int person, int place) {
        int hours = 0;
        for (int hour = now.hour; hour < HOURS; hour++) {
            int tellers = today.group(hour, place) & now.known[news] & ~(1 << person);
            if (today.placeOf(person, hour) == place && tellers != 0) {
                hours++;
            }
        }
        return hours;
    }

    private static int powerOf(int base, int times) {
        int power = 1;
        for (int i = 0; i < times; i++) {
            power *= base;
        }
        return power;
    }

    /** The figure that has so many behind it. */
    private static int figureOf(int row, int behind) {
        int rest = row;
        for (int i = 0; i < behind; i++) {
            rest /= FIGURES;
        }
        return rest % FIGURES;
    }

    /** That it was missed by some tenths each time, but not every time; in least terms. */
    private static int fraction(int missed, int times, boolean upper) {
        int below = powerOf(10, times);
        int above = below - powerOf(missed, times);
        // Only 2 and 5 divide a power of ten, each so often as ten does.
        for (int i = 0; i < times; i++) {
            if (above % 2 == 0 && below % 2 == 0) {
                above /= 2;
                below /= 2;
            }
            if (above % 5 == 0 && below % 5 == 0) {
                above /= 5;
                below /= 5;
            }
        }
        return upper ? above : below;
    }

    /** HALVES: sets of those that know each news, where news 2 is there. */
    private static void joinHalves(int[] known, int newsCount) {
        if (newsCount == MOST_NEWS) {
            known[2] |= known[0] & known[1];
        }
    }

    /** THE TEXT, and how it is read as a day. */
    private static final class Script {
        private final int[] bytes = new int[MOST_BYTES];
        private int length;

        private void append(int sign) {
            if (length < MOST_BYTES) {
                bytes[length] = sign;
                length++;
            }
        }

        /** Behind the end stands -1, which fits nowhere: so what is only too short has its fault there. */
        private int signAt(int at) {
            return at >= 0 && at < length && at < MOST_BYTES ? bytes[at] : -1;
        }

        /** The figure there, if it is below the bound; else -1. */
        private int figureAt(int at, int bound) {
            int figure = signAt(at) - '0';
            return figure >= 0 && figure < bound ? figure : -1;
        }

        /** The first fault; NONE: the text is the day that was read. */
        private int readInto(Day day) {
            day.clear();
            if (signAt(0) != 'D') {
                return 0;
            }
            day.law = figureAt(1, LAWS);
            if (day.law < 0) {
                return 1;
            }
            int at = 2;
            for (int part = 0; part < MOST_BYTES && at < length; part++) {
                int next = readPart(day, at);
                if (next < 0) {
                    return faultOf(next);
                }
                at = next;
            }
            joinHalves(day.firsts, day.newsCount);
            return NONE;
        }

        /** A fault is handed up below 0, to tell it from the place where a part ends. */
        private static int faultAt(int at) {
            return -1 - at;
        }

        private static int faultOf(int answer) {
            return -1 - answer;
        }

        private int readPart(Day day, int at) {
            int sign = signAt(at);
            if (sign == 'P' && day.people < MOST_PEOPLE) {
                return readPerson(day, at + 1);
            }
            if (sign == 'N' && day.newsCount < MOST_NEWS) {
                return readNews(day, at + 1);
            }
            return faultAt(at);
        }

        private int readPerson(Day day, int start) {
            for (int hour = 0; hour < HOURS; hour++) {
                int at = start + hour;
                int place = figureAt(at, PLACES);
                if (place >= 0) {
                    day.put(day.people, hour, place);
                } else if (signAt(at) != '-') {
                    return faultAt(at);
                }
            }
            day.people++;
            return start + HOURS;
        }

        private int readNews(Day day, int start) {
            int limit = figureAt(start, FIGURES);
            if (limit < 0) {
                return faultAt(start);
            }
            int worth = figureAt(start + 1, FIGURES);
            if (worth < 0) {
                return faultAt(start + 1);
            }
            int at = start + 2;
            int knowing = 0;
            // A figure that can be no person ends this too: as the start of a part it is a fault.
            for (int i = 0; i < MOST_PEOPLE; i++) {
                int person = figureAt(at, day.people);
                if (person < 0 || (knowing >> person & 1) != 0) {
                    break;
                }
                knowing |= 1 << person;
                at++;
            }
            day.limits[day.newsCount] = limit;
            day.worths[day.newsCount] = worth;
            day.firsts[day.newsCount] = knowing;
            day.newsCount++;
            return at;
        }
    }

    /** A day as it was told: it does not change by acts. */
    private static final class Day {
        private final int[] places = new int[MOST_PEOPLE * HOURS];
        private final int[] groups = new int[HOURS * PLACES];
        private final int[] limits = new int[MOST_NEWS];
        private final int[] worths = new int[MOST_NEWS];
        private final int[] firsts = new int[MOST_NEWS];
        private int people;
        private int newsCount;
        private int law;

        private void clear() {
            Arrays.fill(places, NONE);
            Arrays.fill(groups, 0);
            Arrays.fill(limits, 0);
            Arrays.fill(worths, 0);
            Arrays.fill(firsts, 0);
            people = 0;
            newsCount = 0;
            law = 0;
        }

        private void put(int person, int hour, int place) {
            places[person * HOURS + hour] = place;
            groups[hour * PLACES + place] |= 1 << person;
        }

        private int placeOf(int person, int hour) {
            return places[person * HOURS + hour];
        }

        /** All that are at a place in an hour; nobody, where there is no such place. */
        private int group(int hour, int place) {
            return place >= 0 && place < PLACES ? groups[hour * PLACES + place] : 0;
        }

        /** Nobody can be told where nobody else is. */
        private static boolean isCompany(int group) {
            return Integer.bitCount(group) > 1;
        }
    }

    /** Who knows what, what was told, and the hour. */
    private static final class Standing {
        private final int[] known = new int[MOST_NEWS];
        private final int[] tellings = new int[MOST_PEOPLE * MOST_NEWS];
        private final int[] attended = new int[MOST_PEOPLE * MOST_NEWS];
        private final int[] atPlaces = new int[MOST_NEWS * PLACES];
        private int hour;
        private boolean kept;

        private void beginWith(Day day) {
            System.arraycopy(day.firsts, 0, known, 0, MOST_NEWS);
            Arrays.fill(tellings, 0);
            Arrays.fill(attended, 0);
            Arrays.fill(atPlaces, 0);
            hour = 0;
        }

        private void copyFrom(Standing other) {
            System.arraycopy(other.known, 0, known, 0, MOST_NEWS);
            System.arraycopy(other.tellings, 0, tellings, 0, tellings.length);
            System.arraycopy(other.attended, 0, attended, 0, attended.length);
            System.arraycopy(other.atPlaces, 0, atPlaces, 0, atPlaces.length);
            hour = other.hour;
        }

        private boolean knows(int person, int news) {
            return (known[news] >> person & 1) != 0;
        }

        private int tellingsOf(int news) {
            int sum = 0;
            for (int place = 0; place < PLACES; place++) {
                sum += atPlaces[news * PLACES + place];
            }
            return sum;
        }

        /** Whether a telling may be, now. */
        private boolean allows(Day day, int person, int news) {
            int place = day.placeOf(person, hour);
            if (!knows(person, news) || !Day.isCompany(day.group(hour, place))) {
                return false;
            }
            if (tellingsOf(news) >= day.limits[news]) {
                return false;
            }
            switch (day.law) {
                case 1: return tellings[person * MOST_NEWS + news] == 0;
                case 2: return place >= 0 && atPlaces[news * PLACES + place] < TELLINGS_AT_PLACE;
                default: return true;
            }
        }

        /** A telling that may be: how many know it that did not. */
        private int spread(Day day, int person, int news) {
            int group = day.group(hour, day.placeOf(person, hour));
            int fresh = Integer.bitCount(group & ~known[news]);
            count(day, person, news, 1);
            known[news] |= group;
            joinHalves(known, day.newsCount);
            return fresh;
        }

        /** Counts a telling of this hour, or by -1 takes it back. */
        private void count(Day day, int person, int news, int step) {
            int place = day.placeOf(person, hour);
            if (place < 0) {
                return;
            }
            tellings[person * MOST_NEWS + news] += step;
            atPlaces[news * PLACES + place] += step;
            int group = day.group(hour, place);
            for (int one = 0; one < day.people; one++) {
                attended[one * MOST_NEWS + news] += (group >> one & 1) * step;
            }
        }

        private int packedKnown() {
            int packed = 0;
            for (int news = 0; news < MOST_NEWS; news++) {
                packed |= known[news] << (news * MOST_PEOPLE);
            }
            return packed;
        }

        private void unpackKnown(int packed) {
            for (int news = 0; news < MOST_NEWS; news++) {
                known[news] = packed >> (news * MOST_PEOPLE) & (PEOPLE_SETS - 1);
            }
        }
    }

    /** The acts that can be undone: of a telling who told what, and who knew what ahead of it. */
    private static final class Acts {
        private static final int AN_HOUR = -1;
        private static final int KNOWN_BITS = MOST_NEWS * MOST_PEOPLE;
        private static final int PERSON_BITS = 3;

        private final int[] row = new int[MOST_ACTS];
        private int count;

        private static int telling(int person, int news, int packedKnown) {
            return (news << PERSON_BITS | person) << KNOWN_BITS | packedKnown;
        }

        private static int teller(int act) {
            return act >> KNOWN_BITS & (1 << PERSON_BITS) - 1;
        }

        private static int newsOf(int act) {
            return act >> (KNOWN_BITS + PERSON_BITS);
        }

        private static int packedKnown(int act) {
            return act & (1 << KNOWN_BITS) - 1;
        }

        private void append(int act) {
            if (count >= MOST_ACTS) {
                System.arraycopy(row, 1, row, 0, MOST_ACTS - 1);
                count = MOST_ACTS - 1;
            }
            row[count] = act;
            count++;
        }

        /** Only where there is one. */
        private int takeLast() {
            count = Math.max(count - 1, 0);
            return row[count];
        }
    }

    /** Nobody asks for a single sight: so they are kept as sets of people by hours. */
    private static final class Sights {
        private final int[] knowing = new int[HOURS];
        private final int[] unknowing = new int[HOURS];
        private int count;

        private void see(int hour, int person, boolean knew) {
            if (knew) {
                knowing[hour] |= 1 << person;
            } else {
                unknowing[hour] |= 1 << person;
            }
            count++;
        }

        private void forget() {
            Arrays.fill(knowing, 0);
            Arrays.fill(unknowing, 0);
            count = 0;
        }

        /** One that is not there any more is in no known set: so it knew nothing. */
        private boolean fit(int hour, int known) {
            return (knowing[hour] & ~known) == 0 && (unknowing[hour] & known) == 0;
        }
    }

    /** One news looked at by itself, by law 0, told at sets of places hour by hour. */
    private static final class Outlook {
        private static final int UNSEEN = -1;
        private static final int NEVER = 99;
        private static final int ANY_LEFT = (1 << FIGURES) - 1;
        /** A duel's choices as sets of places: none, or one. */
        private static final int[] CHOICES = {0, 1, 2, 4};

        private final int[] memo = new int[HOURS * PEOPLE_SETS];
        private final int[] lefts = new int[PEOPLE_SETS];
        private final int[] ways = new int[PEOPLE_SETS * FIGURES];
        private final int[] nexts = new int[PLACE_SETS];
        private Day day;
        private int wanted;
        private int limit;

        private Outlook(Day today) {
            day = today;
        }

        /** Who knows it behind an hour's tellings at a set of places; -1: these may not be. */
        private int behind(int hour, int places, int known) {
            int all = known;
            for (int place = 0; place < PLACES; place++) {
                if ((places >> place & 1) != 0) {
                    int group = day.group(hour, place);
                    if ((group & known) == 0 || !Day.isCompany(group)) {
                        return -1;
                    }
                    all |= group;
                }
            }
            return all;
        }

        private void findNexts(int hour, int known) {
            for (int places = 0; places < PLACE_SETS; places++) {
                nexts[places] = behind(hour, places, known);
            }
        }

        // What is wanted, remembered by hour and by who knows it.

        private void want(Day today, int people) {
            day = today;
            wanted = people;
            Arrays.fill(memo, UNSEEN);
        }

        /** The least tellings from an hour on by which all that are wanted know it; NEVER. */
        private int need(int hour, int known) {
            if ((wanted & ~known) == 0) {
                return 0;
            }
            if (hour >= HOURS) {
                return NEVER;
            }
            int at = hour * PEOPLE_SETS + known;
            if (memo[at] == UNSEEN) {
                int least = NEVER;
                for (int places = 0; places < PLACE_SETS; places++) {
                    least = Math.min(least, needBy(hour, known, places));
                }
                memo[at] = least;
            }
            return memo[at];
        }

        private int needBy(int hour, int known, int places) {
            int next = behind(hour, places, known);
            if (next < 0) {
                return NEVER;
            }
            return Math.min(NEVER, Integer.bitCount(places) + need(hour + 1, next));
        }

        /** The i-th set of the first of the plans with the least tellings. */
        private int planned(int start, int knownThen, int i) {
            int known = knownThen;
            int places = 0;
            for (int hour = start; hour <= start + i && hour < HOURS; hour++) {
                places = firstOfLeast(hour, known);
                known = behind(hour, places, known);
            }
            return places;
        }

        private int firstOfLeast(int hour, int known) {
            int least = need(hour, known);
            for (int places = 0; places < PLACE_SETS; places++) {
                if (needBy(hour, known, places) == least && behind(hour, places, known) >= 0) {
                    return places;
                }
            }
            return 0;
        }

        /** By what is left (as bits 0 .. 9) the friend can have it that the wanted one knows it. */
        private int wonBy(int hour, int known) {
            if ((wanted & known) != 0) {
                return ANY_LEFT;
            }
            if (hour >= HOURS) {
                return 0;
            }
            int at = hour * PEOPLE_SETS + known;
            if (memo[at] == UNSEEN) {
                int won = 0;
                for (int choice : CHOICES) {
                    won |= wonByChoice(hour, known, choice);
                }
                memo[at] = won;
            }
            return memo[at];
        }

        private int wonByChoice(int hour, int known, int choice) {
            if (behind(hour, choice, known) < 0) {
                return 0;
            }
            int won = choice == 0 ? ANY_LEFT : ANY_LEFT & ~1;
            for (int answer : CHOICES) {
                int next = behind(hour, choice | answer, known);
                if (next >= 0 && (choice & answer) == 0) {
                    int cost = Integer.bitCount(choice | answer);
                    // Where less is left the foe can't answer so, and this spoils nothing.
                    won &= wonBy(hour + 1, next) << cost | (1 << cost) - 1;
                }
            }
            return won;
        }

        // What can be left (as bits 0 .. 9), by who knows it. A set of those that know it only
        // grows: from the greatest down, what one hour adds is not gone on from in that hour.

        private void lookFrom(Day today, int known, int left) {
            day = today;
            Arrays.fill(lefts, 0);
            lefts[known] = 1 << left;
        }

        private void goThrough(int hour, int barred) {
            for (int known = PEOPLE_SETS - 1; known >= 0; known--) {
                int left = lefts[known];
                for (int places = 1; left != 0 && places < PLACE_SETS; places++) {
                    int next = behind(hour, places, known);
                    if (next >= 0 && (next & barred) == 0) {
                        lefts[next] |= left >> Integer.bitCount(places);
                    }
                }
            }
        }

        private boolean canBeSpent() {
            for (int known = 0; known < PEOPLE_SETS; known++) {
                if ((lefts[known] & 1) != 0) {
                    return true;
                }
            }
            return false;
        }

        private int mostKnowing() {
            int most = 0;
            for (int known = 0; known < PEOPLE_SETS; known++) {
                if (lefts[known] != 0) {
                    most = Math.max(most, Integer.bitCount(known));
                }
            }
            return most;
        }

        // In how many ways it comes so, by who knows it and by tellings; from the greatest down, too.

        private void countFrom(Day today, int known, int most) {
            day = today;
            limit = most;
            Arrays.fill(ways, 0);
            ways[known * FIGURES] = 1;
        }

        private void countThrough(int hour) {
            for (int known = PEOPLE_SETS - 1; known >= 0; known--) {
                if (isReached(known)) {
                    findNexts(hour, known);
                    for (int tellings = limit; tellings >= 0; tellings--) {
                        countOn(ways[known * FIGURES + tellings], tellings);
                    }
                }
            }
        }

        private void countOn(int count, int tellings) {
            for (int places = 1; count != 0 && places < PLACE_SETS; places++) {
                int sum = tellings + Integer.bitCount(places);
                if (nexts[places] >= 0 && sum <= limit) {
                    ways[nexts[places] * FIGURES + sum] += count;
                }
            }
        }

        private boolean isReached(int known) {
            for (int tellings = 0; tellings <= limit; tellings++) {
                if (ways[known * FIGURES + tellings] != 0) {
                    return true;
                }
            }
            return false;
        }

        private void strikeUnseen(int hour, Sights sights) {
            for (int known = 0; known < PEOPLE_SETS; known++) {
                boolean fits = sights.fit(hour, known);
                for (int tellings = 0; !fits && tellings <= limit; tellings++) {
                    ways[known * FIGURES + tellings] = 0;
                }
            }
        }

        private int counted() {
            int sum = 0;
            for (int i = 0; i < ways.length; i++) {
                sum += ways[i];
            }
            return sum;
        }
    }
}
