/** One milking box and the cows that come to it; the project's document tells each call as a promise. */
public final class MilkBox {
    public static final int UNKNOWN = -1, BAD = -2, STATE = -3, FULL = -4, NONE = -9, CAST = -13;

    private static final int LAST_MINUTE = 100000, LONGEST_PASS = 20000, MINUTES_A_DAY = 1440;
    private static final int MOST_COWS = 12, MOST_VISITS = 500;
    private static final int SHY = 1, SICK = 2, HIGHEST_COW_KIND = 2;
    private static final int REFUSAL = 0, MILKING = 1, CUT = 2, ANY_VISIT = 3;
    private static final int HIGHEST_RATE = 30, LONGEST_WAIT = 1440, HIGHEST_FEED = 5000;
    private static final int HIGHEST_READING = 1000, LATEST_READINGS = 5, READINGS_FOR_ALARM = 3;
    private static final int LAST_WITHHELD = 200000;
    private static final int TEATS = 4, HIGHEST_TROUBLE = 9, TROUBLE_BORNE = 3;
    private static final int MOST_MILK = 400, MILK_A_MINUTE = 20, MINUTES_AHEAD = 2;
    private static final int GRAMS_FOR_EACH = 10, SHY_PATIENCE = 30;
    private static final int HIGHEST_ROOM = 100000, ROOM_AT_FIRST = 5000;
    private static final int TO_TANK = 0, TO_CAN = 1, TO_GROUND = 2;
    private static final int LAST_OF_TAKEN = 3, LAST_OF_ABOUT = 6, LAST_OF_VISIT = 10;

    private final Cow[] cows = new Cow[MOST_COWS];
    private final Visit[] visits = new Visit[MOST_VISITS];
    private final Line line = new Line();
    private final Arm arm = new Arm();
    private final Store store = new Store();
    private int cowCount;
    private int visitCount;
    private int clock;
    private boolean powered;
    private int allMilk;
    private int allFeed;
    private int alarms;
    private int refusals;
    private int longestStay;

    public MilkBox() {
        powered = true;
    }

    // ---- cows

    public int cow(int kind, int rate, int wait, int feed) {
        if (!within(kind, 0, HIGHEST_COW_KIND) || !within(rate, 1, HIGHEST_RATE)) {
            return BAD;
        }
        if (!within(wait, 0, LONGEST_WAIT) || !within(feed, 0, HIGHEST_FEED)) {
            return BAD;
        }
        if (cowCount >= MOST_COWS) {
            return FULL;
        }
        cows[cowCount] = new Cow(kind, rate, wait, feed, clock);
        cowCount++;
        return cowCount - 1;
    }

    public int taken(int cow, int kind, int what) {
        Cow one = cowAt(cow);
        if (one == null) {
            return UNKNOWN;
        }
        if (!within(kind, 0, HIGHEST_COW_KIND) || !within(what, 0, LAST_OF_TAKEN)) {
            return BAD;
        }
        if (kind != 0 && kind != one.kind) {
            return CAST;
        }
        switch (what) {
            case 0: return one.kind;
            case 1: return one.rate;
            case 2: return one.pause;
            default: return one.feedADay;
        }
    }

    public int withhold(int cow, int minute) {
        Cow one = cowAt(cow);
        if (one == null) {
            return UNKNOWN;
        }
        if (!within(minute, 0, LAST_WITHHELD)) {
            return BAD;
        }
        int before = one.withheldTo;
        one.withheldTo = minute;
        return before;
    }

    public int trouble(int cow, int teat, int t) {
        Cow one = cowAt(cow);
        if (one == null || !within(teat, 0, TEATS - 1)) {
            return UNKNOWN;
        }
        if (!within(t, 0, HIGHEST_TROUBLE)) {
            return BAD;
        }
        int before = one.troubles[teat];
        one.troubles[teat] = t;
        return before;
    }

    public int about(int cow, int what) {
        Cow one = cowAt(cow);
        if (one == null) {
            return UNKNOWN;
        }
        if (!within(what, 0, LAST_OF_ABOUT)) {
            return BAD;
        }
        switch (what) {
            case 0: return one.milkAt(clock);
            case 1: return one.latestBegan;
            case 2: return asNumber(one.hasRightAt(clock));
            case 3: return one.fedOn(clock / MINUTES_A_DAY);
            case 4: return line.placeOf(cow);
            case 5: return one.milkedInAll;
            default: return one.readings;
        }
    }

    // ---- time goes by

    public int pass(int n) {
        if (!within(n, 1, LONGEST_PASS)) {
            return BAD;
        }
        int goal = clock + n;
        if (goal > LAST_MINUTE) {
            return FULL;
        }
        // Nobody comes meanwhile, so each cow is milked once at most.
        for (int done = 0; done < MOST_COWS && arm.isBusy() && arm.endsAt <= goal; done++) {
            clock = arm.endsAt;
            finishMilking(MILKING);
            fillBox();
        }
        clock = goal;
        return clock;
    }

    public int come(int cow, int reading) {
        Cow one = cowAt(cow);
        if (one == null) {
            return UNKNOWN;
        }
        if (!within(reading, 0, HIGHEST_READING)) {
            return BAD;
        }
        if (line.placeOf(cow) != NONE || arm.holds(cow)) {
            return STATE;
        }
        if (visitCount >= MOST_VISITS) {
            return FULL;
        }
        int number = visitCount;
        Visit coming = new Visit(cow, one.kind == SHY, clock, reading, one.isAlarming(reading));
        visits[number] = coming;
        visitCount++;
        one.keepReading(reading);
        if (coming.alarm) {
            alarms++;
        }
        if (one.hasRightAt(clock)) {
            line.addLast(coming);
            fillBox();
        } else {
            coming.kind = REFUSAL;
            refusals++;
        }
        return number;
    }

    public int power(boolean on) {
        int before = asNumber(powered);
        powered = on;
        if (on) {
            fillBox();
        } else {
            finishMilking(CUT);
        }
        return before;
    }

    public int box() {
        Visit now = arm.current;
        return now == null ? NONE : now.cow;
    }

    public int queue(int i) {
        Visit waiting = line.at(i);
        return waiting == null ? NONE : waiting.cow;
    }

    public int ends() {
        return arm.isBusy() ? arm.endsAt : NONE;
    }

    // ---- milk

    public int room(int n) {
        if (!within(n, 1, HIGHEST_ROOM)) {
            return BAD;
        }
        if (store.tank > n) {
            return STATE;
        }
        int before = store.tankRoom;
        store.tankRoom = n;
        return before;
    }

    public int pick(int n) {
        if (!within(n, 1, HIGHEST_ROOM)) {
            return BAD;
        }
        return store.takeAway(n);
    }

    public int total(int what) {
        switch (what) {
            case 0: return store.tank;
            case 1: return store.can;
            case 2: return store.poured;
            case 3: return store.takenAway;
            case 4: return allMilk;
            case 5: return allFeed;
            case 6: return clock;
            case 7: return cowCount;
            case 8: return visitCount;
            case 9: return line.size;
            case 10: return alarms;
            case 11: return asNumber(powered);
            case 12: return refusals;
            default: return BAD;
        }
    }

    // ---- books

    public int visit(int visit, int kind, int what) {
        Visit one = visitAt(visit);
        if (one == null) {
            return UNKNOWN;
        }
        if (!within(kind, 0, ANY_VISIT) || !within(what, 0, LAST_OF_VISIT)) {
            return BAD;
        }
        if (!one.isOfKind(kind)) {
            return CAST;
        }
        return one.tell(what);
    }

    public int visitOf(int cow, int i) {
        if (cowAt(cow) == null) {
            return UNKNOWN;
        }
        int seen = 0;
        for (int number = 0; number < visitCount; number++) {
            Visit one = visitAt(number);
            if (one != null && one.cow == cow) {
                if (seen == i) {
                    return number;
                }
                seen++;
            }
        }
        return NONE;
    }

    public int gave(int cow, int day) {
        if (cowAt(cow) == null) {
            return UNKNOWN;
        }
        if (day < 0) {
            return BAD;
        }
        int sum = 0;
        for (int number = 0; number < visitCount; number++) {
            Visit one = visitAt(number);
            if (one != null && one.cow == cow && one.endedOn(day)) {
                sum += one.milked;
            }
        }
        return sum;
    }

    public int longest() {
        return longestStay;
    }

    public int rank(int i) {
        for (int number = 0; number < cowCount; number++) {
            if (countAhead(number) == i) {
                return number;
            }
        }
        return NONE;
    }

    public int until(int cow, int milk) {
        Cow one = cowAt(cow);
        if (one == null) {
            return UNKNOWN;
        }
        if (!within(milk, 1, MOST_MILK)) {
            return BAD;
        }
        if (arm.holds(cow)) {
            return NONE;
        }
        return one.minutesTo(milk, clock);
    }

    // ---- what the calls share

    private static boolean within(int value, int least, int most) {
        return value >= least && value <= most;
    }

    private static int asNumber(boolean yes) {
        return yes ? 1 : 0;
    }

    private Cow cowAt(int number) {
        return within(number, 0, cowCount - 1) && number < cows.length ? cows[number] : null;
    }

    private Visit visitAt(int number) {
        return within(number, 0, visitCount - 1) && number < visits.length ? visits[number] : null;
    }

    private void fillBox() {
        if (!powered || arm.isBusy()) {
            return;
        }
        Visit next = line.takeNext(clock);
        if (next == null) {
            return;
        }
        Cow one = cowAt(next.cow);
        if (one == null) {
            return;
        }
        longestStay = Math.max(longestStay, clock - next.minute);
        arm.begin(next, one, clock);
        one.beginMilking(clock);
    }

    private void finishMilking(int kind) {
        Visit now = arm.current;
        if (now == null) {
            return;
        }
        Cow one = cowAt(now.cow);
        if (one == null) {
            return;
        }
        int milk = kind == CUT ? arm.milkedBy(clock) : arm.milkDue;
        now.kind = kind;
        now.ended = clock;
        now.milked = milk;
        now.went = store.put(milk, one.isWithheldAt(clock));
        now.feed = one.feedFor(milk, clock / MINUTES_A_DAY);
        one.left = arm.milkThere - milk;
        one.milkedInAll += milk;
        allMilk += milk;
        allFeed += now.feed;
        arm.current = null;
    }

    private int countAhead(int number) {
        Cow mine = cowAt(number);
        if (mine == null) {
            return NONE;
        }
        int ahead = 0;
        for (int other = 0; other < cowCount; other++) {
            Cow one = cowAt(other);
            // Of like ones the lesser number is ahead.
            int least = other < number ? mine.milkedInAll : mine.milkedInAll + 1;
            if (one != null && one.milkedInAll >= least) {
                ahead++;
            }
        }
        return ahead;
    }

    /** A cow: what it is for good, and what time, milkings and calls have made of it. */
    private static final class Cow {
        final int kind;
        final int rate;
        final int pause;
        final int feedADay;
        final int[] troubles = new int[TEATS];
        final int[] latest = new int[LATEST_READINGS];
        int readings;
        int withheldTo;
        int growsFrom;
        int left;
        int latestBegan = NONE;
        int milkedInAll;
        int fed;
        int fedDay;

        Cow(int kind, int rate, int pause, int feedADay, int minute) {
            this.kind = kind;
            this.rate = rate;
            this.pause = pause;
            this.feedADay = feedADay;
            this.growsFrom = minute;
        }

        int milkAt(int minute) {
            return Math.min(MOST_MILK, left + rate * (minute - growsFrom) / 60);
        }

        int minutesTo(int milk, int minute) {
            if (rate < 1 || milk <= milkAt(minute)) {
                return 0;
            }
            // Growth is cut, so the minutes for it are rounded up.
            int grown = ((milk - left) * 60 + rate - 1) / rate;
            return grown - (minute - growsFrom);
        }

        boolean hasRightAt(int minute) {
            return latestBegan == NONE || minute - latestBegan >= pause;
        }

        boolean isWithheldAt(int minute) {
            return kind == SICK || withheldTo > minute;
        }

        int fedOn(int day) {
            return fedDay == day ? fed : 0;
        }

        int feedFor(int milk, int day) {
            int before = fedOn(day);
            int grams = Math.min(GRAMS_FOR_EACH * milk, feedADay - before);
            fedDay = day;
            fed = before + grams;
            return grams;
        }

        boolean isAlarming(int reading) {
            if (readings < READINGS_FOR_ALARM) {
                return false;
            }
            int sum = 0;
            // Places that no reading has taken yet hold 0.
            for (int i = 0; i < latest.length; i++) {
                sum += latest[i];
            }
            return 10 * reading * Math.min(readings, LATEST_READINGS) > 12 * sum;
        }

        void keepReading(int reading) {
            int place = readings % LATEST_READINGS;
            if (place >= 0 && place < latest.length) {
                latest[place] = reading;
            }
            readings++;
        }

        // What is left is known when the milking ends; trouble told from now on is for the next one.
        void beginMilking(int minute) {
            latestBegan = minute;
            growsFrom = minute;
            left = 0;
            for (int i = 0; i < troubles.length; i++) {
                troubles[i] = 0;
            }
        }
    }

    /** A visit as the books have it. */
    private static final class Visit {
        final int cow;
        final boolean shy;
        final int minute;
        final int reading;
        final boolean alarm;
        int kind = MILKING;
        int began = NONE;
        int ended = NONE;
        int milked = NONE;
        int went = NONE;
        int lost = NONE;
        int feed = NONE;

        Visit(int cow, boolean shy, int minute, int reading, boolean alarm) {
            this.cow = cow;
            this.shy = shy;
            this.minute = minute;
            this.reading = reading;
            this.alarm = alarm;
        }

        boolean isOfKind(int asked) {
            return asked == ANY_VISIT || asked == kind || asked == MILKING && kind == CUT;
        }

        boolean endedOn(int day) {
            return ended != NONE && ended / MINUTES_A_DAY == day;
        }

        int tell(int what) {
            switch (what) {
                case 0: return kind;
                case 1: return cow;
                case 2: return minute;
                case 3: return reading;
                case 4: return asNumber(alarm);
                case 5: return began;
                case 6: return ended;
                case 7: return milked;
                case 8: return went;
                case 9: return lost;
                default: return feed;
            }
        }
    }

    /** The cows that wait, as their visits. */
    private static final class Line {
        final Visit[] places = new Visit[MOST_COWS];
        int size;

        Visit at(int i) {
            return i >= 0 && i < size && i < places.length ? places[i] : null;
        }

        int placeOf(int cow) {
            for (int i = 0; i < size; i++) {
                Visit one = at(i);
                if (one != null && one.cow == cow) {
                    return i;
                }
            }
            return NONE;
        }

        void addLast(Visit coming) {
            if (size >= 0 && size < places.length) {
                places[size] = coming;
                size++;
            }
        }

        Visit takeNext(int minute) {
            int chosen = choose(minute);
            Visit next = at(chosen);
            if (next != null) {
                closeUp(chosen);
            }
            return next;
        }

        private int choose(int minute) {
            for (int i = 0; i < size; i++) {
                Visit one = at(i);
                if (one != null && one.shy && minute - one.minute >= SHY_PATIENCE) {
                    return i;
                }
            }
            return 0;
        }

        private void closeUp(int gap) {
            for (int i = Math.max(0, gap); i + 1 < size && i + 1 < places.length; i++) {
                places[i] = places[i + 1];
            }
            size--;
        }
    }

    /** The arm: the milking under way, if there is one. */
    private static final class Arm {
        Visit current;
        int milkThere;
        int milkDue;
        int flowsFrom;
        int endsAt;

        boolean isBusy() {
            return current != null;
        }

        boolean holds(int cow) {
            Visit now = current;
            return now != null && now.cow == cow;
        }

        void begin(Visit next, Cow one, int minute) {
            current = next;
            milkThere = one.milkAt(minute);
            milkDue = 0;
            flowsFrom = minute + MINUTES_AHEAD;
            int lost = 0;
            for (int teat = 0; teat < one.troubles.length; teat++) {
                int trouble = one.troubles[teat];
                flowsFrom += Math.min(trouble, TROUBLE_BORNE);
                if (trouble > TROUBLE_BORNE) {
                    lost++;
                } else {
                    milkDue += milkOfTeat(teat);
                }
            }
            endsAt = flowsFrom + (milkDue + MILK_A_MINUTE - 1) / MILK_A_MINUTE;
            next.began = minute;
            next.lost = lost;
        }

        int milkedBy(int minute) {
            return Math.min(milkDue, MILK_A_MINUTE * Math.max(0, minute - flowsFrom));
        }

        private int milkOfTeat(int teat) {
            int share = milkThere / TEATS;
            return teat == 0 ? share + milkThere % TEATS : share;
        }
    }

    /** Where milk goes. */
    private static final class Store {
        int tankRoom = ROOM_AT_FIRST;
        int tank;
        int can;
        int poured;
        int takenAway;

        int put(int milk, boolean withheld) {
            if (withheld) {
                can += milk;
                return TO_CAN;
            }
            if (milk <= tankRoom - tank) {
                tank += milk;
                return TO_TANK;
            }
            poured += milk;
            return TO_GROUND;
        }

        int takeAway(int most) {
            int milk = Math.min(most, tank);
            tank -= milk;
            takenAway += milk;
            return milk;
        }
    }
}
