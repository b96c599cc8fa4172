import java.util.function.IntUnaryOperator;

/**
 * The boundaries that 'What it is' and 'Terms' name: a test for each sentence (its words are the name of the check),
 * with inputs at the boundary and on each side of it. What is due is counted by hand from the document.
 */
public final class EdgeTermsTest {
    private static final int UNKNOWN = -1, BAD = -2, STATE = -3, FULL = -4, NONE = -9, CAST = -13;
    private static final int LEAST = Integer.MIN_VALUE, MOST = Integer.MAX_VALUE;

    public static void main(String[] args) {
        clockAtFirst();
        clockAtMost();
        lastMinuteHappens();
        days();
        feedOfDays();
        calls512();
        cowsAtMost();
        kinds();
        sickIsWithheldForGood();
        rates();
        waits();
        feeds();
        milkFromThere();
        milkFromBegan();
        milkCut();
        milkAtMost();
        milkAtMostWithLeft();
        milkAtMostWhenAllIsLost();
        rightOfNeverMilked();
        rightByWait();
        rightOfWaitNone();
        rightByBegan();
        comesWithoutRight();
        comesLastOfTheQueue();
        comesWhileItWaits();
        boxFree();
        powerOnAtFirst();
        shyOf30Minutes();
        shyFirstOfThem();
        shyAlone();
        shyByPowerAndByEnd();
        partedAmongTeats();
        troubleAtFirst();
        troubleAbove3();
        troubleMinutes();
        troubleBehind();
        minutesBy20();
        minutesByMilkNotLost();
        endsAllAtOnce();
        leftOfLost();
        powerEndsMilking();
        powerBehindTroubles();
        powerNoMoreThanElse();
        powerAndTheOthers();
        powerInTheLastMinute();
        canByMinute();
        tankRoomForAll();
        roomAtFirst();
        tankFullAtMost();
        feedForEach();
        feedLeftOfTheDay();
        feedOnThatDay();
        readings();
        alarmOfThree();
        alarmOfLatestFive();
        alarmAbove();
        alarmOfItsOwn();
        alarmAlsoIfRefused();
        visitsNumbered();
        visitsAtMost();
        visitsSoFar();
        Check.close();
    }

    // ---- the clock

    private static void clockAtFirst() {
        Check c = new Check("THE CLOCK tells minutes (0 at first)");
        MilkBox x = new MilkBox();
        c.due("total(6)", x.total(6), 0);
        c.due("pass(1)", x.pass(1), 1);
        c.due("total(6)", x.total(6), 1);
    }

    private static void clockAtMost() {
        Check c = new Check("THE CLOCK (100000 at most)");
        MilkBox x = Farm.at(99998);
        c.due("pass(3) in 99998", x.pass(3), FULL);
        c.due("pass(1) in 99998", x.pass(1), 99999);
        c.due("pass(2) in 99999", x.pass(2), FULL);
        c.due("total(6)", x.total(6), 99999);
        c.due("pass(1) in 99999", x.pass(1), 100000);
        c.due("pass(1) in 100000", x.pass(1), FULL);
        c.due("pass(20000) in 100000", x.pass(20000), FULL);
        c.due("total(6)", x.total(6), 100000);
        c.around("pass(20000) in", minute -> Farm.at(minute).pass(20000),
            new int[][] {{0, 20000}, {79999, 99999}, {80000, 100000}, {80001, FULL}, {99999, FULL}});
    }

    private static void lastMinuteHappens() {
        Check c = new Check("THE CLOCK (100000 at most): what is in the last minute happens");
        // Without milk it takes 2 minutes.
        int[][] cameEndedBox = {{99997, 99999, NONE}, {99998, 100000, NONE}, {99999, NONE, 0}, {100000, NONE, 0}};
        for (int[] one : cameEndedBox) {
            MilkBox x = Farm.at(one[0]);
            x.cow(0, 6, 1440, 0);
            c.due("come in " + one[0], x.come(0, 1), 0);
            c.due("ends() of " + one[0], x.ends(), one[0] + 2);
            Farm.passTo(x, 100000);
            c.due("ENDED of " + one[0], x.visit(0, 1, 6), one[1]);
            c.due("box() of " + one[0], x.box(), one[2]);
            x.power(false);
            c.due("KIND of " + one[0], x.visit(0, 1, 0), one[2] == 0 ? 2 : 1);
            c.due("ENDED then of " + one[0], x.visit(0, 1, 6), one[2] == 0 ? 100000 : one[1]);
        }
        MilkBox y = Farm.withCow(0, 1, 1440, 0);
        Farm.passTo(y, 100000);
        c.due("HAS in 100000", y.about(0, 0), 400);
        c.due("come in 100000", y.come(0, 1), 0);
        c.due("BEGAN in 100000", y.about(0, 1), 100000);
        y.power(false);
        c.due("until behind the last minute", y.until(0, 400), 0);
        c.due("REFUSED in 100000", y.visit(y.come(0, 1), 3, 0), 0);
    }

    // 5 are milked of a cow of rate 30, and ENDED in this minute.
    private static MilkBox endedIn(int minute, int feed) {
        MilkBox x = Farm.at(minute - 13);
        x.cow(0, 30, 0, feed);
        x.pass(10);
        x.come(0, 1);
        x.pass(3);
        return x;
    }

    private static void days() {
        Check c = new Check("a DAY is 1440 of them");
        int[][] minuteAndDay = {{13, 0}, {1438, 0}, {1439, 0}, {1440, 1}, {1441, 1}, {2879, 1}, {2880, 2}, {2881, 2},
            {99359, 68}, {99360, 69}, {99361, 69}, {100000, 69}};
        for (int[] one : minuteAndDay) {
            MilkBox x = endedIn(one[0], 0);
            c.due("ENDED", x.visit(0, 1, 6), one[0]);
            c.due("gave of the DAY of " + one[0], x.gave(0, one[1]), 5);
            c.due("gave of the DAY ahead of " + one[0], x.gave(0, one[1] - 1), one[1] == 0 ? BAD : 0);
            c.due("gave of the DAY behind " + one[0], x.gave(0, one[1] + 1), 0);
        }
    }

    private static void feedOfDays() {
        Check c = new Check("a DAY is 1440 of them: FEED of this DAY so far");
        int[][] endedAndLastMinute = {{1438, 1439}, {1439, 1439}, {1440, 2879}, {1441, 2879}, {2879, 2879}, {2880, 4319}};
        for (int[] one : endedAndLastMinute) {
            MilkBox x = endedIn(one[0], 5000);
            c.due("FEED in " + one[0], x.about(0, 3), 50);
            Farm.passTo(x, one[1]);
            c.due("FEED in " + one[1], x.about(0, 3), 50);
            x.pass(1);
            c.due("FEED in " + (one[1] + 1), x.about(0, 3), 0);
        }
    }

    private static void calls512() {
        Check c = new Check("An object is used for at most 512 calls");
        MilkBox x = Farm.withCows(11);
        c.due("call 12", x.cow(0, 1, 1440, 0), 11);
        c.due("call 13", x.come(11, 1), 0);
        c.due("call 14", x.power(false), 1);
        for (int call = 15; call < 512; call++) {
            c.due("call " + call, x.come(11, 1), call - 14);
        }
        c.due("call 512", x.visit(497, 0, 1), 11);
    }

    // ---- cows

    private static void cowsAtMost() {
        Check c = new Check("COWS 0, 1, .. (12 at most)");
        c.around("a cow behind so many:", count -> Farm.withCows(count).cow(0, 1, 0, 0),
            new int[][] {{0, 0}, {1, 1}, {10, 10}, {11, 11}, {12, FULL}, {13, FULL}});
        c.around("READINGS of the last of so many:", count -> Farm.withCows(count).about(count - 1, 6),
            new int[][] {{0, UNKNOWN}, {1, 0}, {11, 0}, {12, 0}, {13, UNKNOWN}});
        c.around("cows of so many:", count -> Farm.withCows(count).total(7),
            new int[][] {{0, 0}, {1, 1}, {11, 11}, {12, 12}, {13, 12}});
    }

    private static void kinds() {
        Check c = new Check("are of a KIND: 0 COW, 1 SHY, 2 SICK");
        c.around("cow of KIND", kind -> new MilkBox().cow(kind, 1, 0, 0),
            new int[][] {{LEAST, BAD}, {-1, BAD}, {0, 0}, {1, 0}, {2, 0}, {3, BAD}, {MOST, BAD}});
        c.around("KIND", kind -> Farm.withCow(kind, 1, 0, 0).taken(0, 0, 0),
            new int[][] {{-1, UNKNOWN}, {0, 0}, {1, 1}, {2, 2}, {3, UNKNOWN}});
    }

    private static void sickIsWithheldForGood() {
        Check c = new Check("SICK (a COW that is WITHHELD for good)");
        for (int kind = 0; kind <= 2; kind++) {
            for (int came : new int[] {800, 99977, 99978}) {
                MilkBox x = Farm.withCow(kind, 30, 0, 0);
                x.withhold(0, 0);
                Farm.passTo(x, came);
                Farm.milk(x, 0);
                String what = "KIND " + kind + ", ENDED in " + (came + 22);
                c.due(what, x.visit(0, 1, 6), came + 22);
                c.due(what + ", went", x.visit(0, 1, 8), kind == 2 ? 1 : 0);
                c.due(what + ", the CAN", x.total(1), kind == 2 ? 400 : 0);
                c.due(what + ", THE TANK", x.total(0), kind == 2 ? 0 : 400);
            }
        }
    }

    private static void rates() {
        Check c = new Check("a RATE (1 .. 30)");
        c.around("cow of RATE", rate -> new MilkBox().cow(0, rate, 0, 0), new int[][] {
            {LEAST, BAD}, {-1, BAD}, {0, BAD}, {1, 0}, {2, 0}, {29, 0}, {30, 0}, {31, BAD}, {32, BAD}, {MOST, BAD}});
        c.around("RATE", rate -> Farm.withCow(0, rate, 0, 0).taken(0, 0, 1),
            new int[][] {{0, UNKNOWN}, {1, 1}, {2, 2}, {29, 29}, {30, 30}, {31, UNKNOWN}});
    }

    private static void waits() {
        Check c = new Check("a WAIT (minutes, 0 .. 1440)");
        c.around("cow of WAIT", wait -> new MilkBox().cow(0, 1, wait, 0), new int[][] {
            {LEAST, BAD}, {-2, BAD}, {-1, BAD}, {0, 0}, {1, 0}, {1439, 0}, {1440, 0}, {1441, BAD}, {MOST, BAD}});
        c.around("WAIT", wait -> Farm.withCow(0, 1, wait, 0).taken(0, 0, 2),
            new int[][] {{-1, UNKNOWN}, {0, 0}, {1, 1}, {1439, 1439}, {1440, 1440}, {1441, UNKNOWN}});
    }

    private static void feeds() {
        Check c = new Check("a FEED (grams a DAY at most, 0 .. 5000)");
        c.around("cow of FEED", feed -> new MilkBox().cow(0, 1, 0, feed), new int[][] {
            {LEAST, BAD}, {-2, BAD}, {-1, BAD}, {0, 0}, {1, 0}, {4999, 0}, {5000, 0}, {5001, BAD}, {MOST, BAD}});
        c.around("FEED", feed -> Farm.withCow(0, 1, 0, feed).taken(0, 0, 3),
            new int[][] {{-1, UNKNOWN}, {0, 0}, {1, 1}, {4999, 4999}, {5000, 5000}, {5001, UNKNOWN}});
    }

    // ---- milk that grows

    private static void milkFromThere() {
        Check c = new Check("MILK grows from the minute of which it is there");
        for (int there : new int[] {0, 1, 100, 99990}) {
            int[] due = {0, 0, 1, 1, 2};
            for (int minutes = 0; minutes < due.length; minutes++) {
                MilkBox x = Farm.at(there);
                x.cow(0, 30, 0, 0);
                Farm.passTo(x, there + minutes);
                c.due("there in " + there + ", HAS " + minutes + " behind", x.about(0, 0), due[minutes]);
            }
        }
    }

    private static void milkFromBegan() {
        Check c = new Check("or in which its latest milking BEGAN");
        // It comes in 100 and BEGINS in 110 with 55; it ENDS in 115: not from 100, 111 or 115.
        MilkBox x = Farm.withCow(0, 30, 0, 0);
        x.pass(100);
        x.power(false);
        x.come(0, 1);
        x.pass(10);
        c.due("HAS while it waits", x.about(0, 0), 55);
        x.power(true);
        int[] inTheBox = {0, 0, 1, 1, 2};
        for (int minute = 110; minute < 115; minute++) {
            c.due("HAS in " + minute, x.about(0, 0), inTheBox[minute - 110]);
            x.pass(1);
        }
        c.due("ENDED", x.visit(0, 1, 6), 115);
        c.due("HAS in 115", x.about(0, 0), 2);
        x.pass(1);
        c.due("HAS in 116", x.about(0, 0), 3);
    }

    private static void milkCut() {
        Check c = new Check("in m minutes by RATE times m by 60, cut");
        int[][] rateMinutesDue = {{1, 59, 0}, {1, 60, 1}, {1, 61, 1}, {1, 119, 1}, {1, 120, 2}, {7, 8, 0}, {7, 9, 1},
            {7, 17, 1}, {7, 18, 2}, {29, 2, 0}, {29, 3, 1}, {29, 4, 1}, {29, 5, 2}, {30, 1, 0}, {30, 2, 1}, {30, 3, 1},
            {13, 1107, 239}, {13, 1108, 240}, {13, 1109, 240}};
        for (int[] one : rateMinutesDue) {
            MilkBox x = Farm.withCow(0, one[0], 0, 0);
            x.pass(one[1]);
            c.due("RATE " + one[0] + ", " + one[1] + " minutes", x.about(0, 0), one[2]);
        }
    }

    private static void milkAtMost() {
        Check c = new Check("it HAS .. 400 at most");
        int[][] rateMinutesDue = {{30, 799, 399}, {30, 800, 400}, {30, 801, 400}, {30, 802, 400}, {30, 20000, 400},
            {1, 23940, 399}, {1, 23999, 399}, {1, 24000, 400}, {1, 24060, 400}, {30, 100000, 400}};
        for (int[] one : rateMinutesDue) {
            MilkBox x = Farm.withCow(0, one[0], 0, 0);
            Farm.passTo(x, one[1]);
            c.due("RATE " + one[0] + ", " + one[1] + " minutes", x.about(0, 0), one[2]);
        }
        c.around("milked of minutes", minutes -> {
            MilkBox x = Farm.withCow(0, 30, 0, 0);
            x.pass(minutes);
            Farm.milk(x, 0);
            return x.visit(0, 1, 7);
        }, new int[][] {{797, 398}, {799, 399}, {800, 400}, {802, 400}, {1000, 400}});
    }

    // 100 are LEFT of a milking that BEGAN in 800; it ENDED in 820.
    private static MilkBox with100Left() {
        MilkBox x = Farm.having(400, 0);
        x.trouble(0, 1, 4);
        Farm.milk(x, 0);
        return x;
    }

    private static void milkAtMostWithLeft() {
        Check c = new Check("it HAS that and what was LEFT then, 400 at most");
        IntUnaryOperator has = minute -> {
            MilkBox x = with100Left();
            Farm.passTo(x, minute);
            return x.about(0, 0);
        };
        c.around("HAS in", has, new int[][] {{820, 110}, {821, 110}, {822, 111}, {1398, 399}, {1399, 399}, {1400, 400},
            {1401, 400}, {1402, 400}, {20000, 400}});
        c.around("milked in", minute -> {
            MilkBox x = with100Left();
            Farm.passTo(x, minute);
            Farm.milk(x, 0);
            return x.visit(1, 1, 7);
        }, new int[][] {{1399, 399}, {1400, 400}, {1402, 400}, {2000, 400}});
    }

    private static void milkAtMostWhenAllIsLost() {
        Check c = new Check("400 at most, when all of it was LEFT");
        for (int milk = 399; milk <= 400; milk++) {
            MilkBox x = Farm.having(milk, 0);
            for (int teat = 0; teat < 4; teat++) {
                x.trouble(0, teat, 4);
            }
            x.come(0, 1);
            c.due("in the BOX, " + milk, x.about(0, 0), 0);
            x.pass(13);
            c.due("in the BOX 13 minutes, " + milk, x.about(0, 0), 6);
            x.pass(1);
            c.due("behind it, " + milk, x.about(0, 0), 400);
        }
    }

    // ---- the RIGHT

    private static void rightOfNeverMilked() {
        Check c = new Check("It has the RIGHT, if it was never milked");
        for (int wait : new int[] {0, 1, 1439, 1440}) {
            MilkBox x = Farm.withCow(0, 30, wait, 0);
            c.due("WAIT " + wait + " in 0", x.about(0, 2), 1);
            c.due("KIND of the VISIT", x.visit(x.come(0, 1), 3, 0), 1);
            MilkBox y = Farm.at(1439);
            y.cow(0, 30, wait, 0);
            y.power(false);
            y.come(0, 1);
            c.due("WAIT " + wait + ", one that waits", y.about(0, 2), 1);
        }
    }

    // A milking that BEGAN in minute 10, and was CUT in it.
    private static MilkBox beganIn10(int wait) {
        MilkBox x = Farm.at(10);
        x.cow(0, 1, wait, 0);
        x.come(0, 1);
        x.power(false);
        return x;
    }

    private static void rightByWait() {
        Check c = new Check("or its latest milking BEGAN WAIT minutes ago or more");
        int[][] waitAgoRight = {{1, 0, 0}, {1, 1, 1}, {1, 2, 1}, {2, 1, 0}, {2, 2, 1}, {2, 3, 1}, {720, 719, 0},
            {720, 720, 1}, {720, 721, 1}, {1439, 1438, 0}, {1439, 1439, 1}, {1439, 1440, 1}, {1440, 1439, 0},
            {1440, 1440, 1}, {1440, 1441, 1}, {1440, 20000, 1}};
        for (int[] one : waitAgoRight) {
            MilkBox x = beganIn10(one[0]);
            Farm.passTo(x, 10 + one[1]);
            String what = "WAIT " + one[0] + ", " + one[1] + " ago";
            c.due(what + ", RIGHT", x.about(0, 2), one[2]);
            c.due(what + ", come", x.come(0, 1), 1);
            c.due(what + ", KIND of the VISIT", x.visit(1, 3, 0), one[2]);
            c.due(what + ", how many wait", x.total(9), one[2]);
            c.due(what + ", REFUSALS", x.total(12), 1 - one[2]);
        }
    }

    private static void rightOfWaitNone() {
        Check c = new Check("BEGAN WAIT minutes ago or more: WAIT 0 in that very minute");
        MilkBox x = beganIn10(0);
        c.due("RIGHT", x.about(0, 2), 1);
        c.due("come", x.come(0, 1), 1);
        c.due("KIND of the VISIT", x.visit(1, 3, 0), 1);
        c.due("queue(0)", x.queue(0), 0);
        MilkBox y = beganIn10(1);
        c.due("WAIT 1, RIGHT", y.about(0, 2), 0);
        c.due("WAIT 1, come", y.come(0, 1), 1);
        c.due("WAIT 1, KIND of the VISIT", y.visit(1, 3, 0), 0);
    }

    private static void rightByBegan() {
        Check c = new Check("its latest milking BEGAN: not when it came, not when it ENDED, not a REFUSAL");
        // It comes in 5, BEGINS in 20, ENDS in 22; it comes without the RIGHT in 30.
        c.around("RIGHT in", minute -> {
            MilkBox x = Farm.withCow(0, 1, 40, 0);
            x.pass(5);
            x.power(false);
            x.come(0, 1);
            x.pass(15);
            x.power(true);
            x.pass(10);
            x.come(0, 1);
            Farm.passTo(x, minute);
            return x.about(0, 2);
        }, new int[][] {{45, 0}, {59, 0}, {60, 1}, {61, 1}, {62, 1}, {70, 1}});
    }

    // ---- the QUEUE and the BOX

    private static void comesWithoutRight() {
        Check c = new Check("A cow that COMES: without the RIGHT it is REFUSED");
        MilkBox x = beganIn10(1440);
        for (int again = 1; again <= 3; again++) {
            c.due("come", x.come(0, 1), again);
            c.due("KIND", x.visit(again, 3, 0), 0);
            c.due("REFUSALS", x.total(12), again);
            c.due("place", x.about(0, 4), NONE);
            c.due("queue(0)", x.queue(0), NONE);
        }
        x.power(true);
        c.due("box()", x.box(), NONE);
    }

    private static void comesLastOfTheQueue() {
        Check c = new Check("else it waits, last of the QUEUE");
        int[] order = {7, 0, 11, 3, 1, 10, 2, 9, 4, 8, 5, 6};
        MilkBox x = Farm.withCows(12);
        x.power(false);
        for (int i = 0; i < 12; i++) {
            c.due("queue(" + i + ") ahead", x.queue(i), NONE);
            x.come(order[i], 1);
            c.due("queue(" + i + ")", x.queue(i), order[i]);
            c.due("place of " + order[i], x.about(order[i], 4), i);
            c.due("the first", x.queue(0), 7);
        }
        c.due("queue(12)", x.queue(12), NONE);
        c.due("total(9)", x.total(9), 12);
    }

    private static void comesWhileItWaits() {
        Check c = new Check("A cow that COMES, and neither waits nor is in the BOX");
        MilkBox x = Farm.withCows(3);
        x.come(0, 1);
        x.come(1, 1);
        x.come(2, 1);
        // In the BOX in turn: 0 to 2, 1 to 4, 2 to 6.
        int[][] minuteAndDues = {{1, STATE, STATE, STATE}, {2, 3, STATE, STATE}, {3, STATE, STATE, STATE},
            {4, STATE, 4, STATE}, {6, STATE, STATE, 5}};
        for (int[] one : minuteAndDues) {
            Farm.passTo(x, one[0]);
            for (int cow = 0; cow < 3; cow++) {
                c.due("come of " + cow + " in " + one[0], x.come(cow, 1), one[1 + cow]);
            }
        }
        c.due("total(8)", x.total(8), 6);
    }

    private static void boxFree() {
        Check c = new Check("Whenever the BOX is free .. its milking BEGINS in that minute");
        MilkBox x = Farm.withCows(3);
        x.pass(7);
        x.come(0, 1);
        c.due("free as it comes", x.visit(0, 1, 5), 7);
        x.pass(1);
        x.come(1, 1);
        c.due("not free", x.visit(1, 1, 5), NONE);
        x.pass(1);
        c.due("free as the other ENDS", x.visit(1, 1, 5), 9);
        x.pass(1);
        x.come(2, 1);
        x.power(false);
        c.due("free as it is CUT, but without POWER", x.visit(2, 1, 5), NONE);
        x.pass(5);
        c.due("free, without POWER", x.box(), NONE);
        x.power(true);
        c.due("as THE POWER is on", x.visit(2, 1, 5), 15);
        x.pass(2);
        c.due("an empty QUEUE", x.box(), NONE);
    }

    private static void powerOnAtFirst() {
        Check c = new Check("THE POWER is on (as at first)");
        MilkBox x = Farm.withCows(1);
        c.due("total(11)", x.total(11), 1);
        x.come(0, 1);
        c.due("box()", x.box(), 0);
        c.due("power(true)", new MilkBox().power(true), 1);
        c.due("power(false)", new MilkBox().power(false), 1);
    }

    // A cow of another KIND is first, one of this KIND waits for so many minutes as the BOX gets free.
    private static int entersBehind(int kind, int minutes) {
        MilkBox x = Farm.withCow(0, 1, 0, 0);
        x.cow(kind, 1, 0, 0);
        x.power(false);
        x.come(0, 1);
        x.pass(100);
        x.come(1, 1);
        Farm.passTo(x, 100 + minutes);
        x.power(true);
        return x.box();
    }

    private static void shyOf30Minutes() {
        Check c = new Check("of SHY ones that wait for 30 minutes or more the first one enters, else the first one");
        c.around("SHY, minutes", minutes -> entersBehind(1, minutes),
            new int[][] {{0, 0}, {1, 0}, {28, 0}, {29, 0}, {30, 1}, {31, 1}, {20000, 1}});
        c.around("COW, minutes", minutes -> entersBehind(0, minutes), new int[][] {{29, 0}, {30, 0}, {31, 0}, {5000, 0}});
        c.around("SICK, minutes", minutes -> entersBehind(2, minutes), new int[][] {{29, 0}, {30, 0}, {31, 0}, {5000, 0}});
    }

    private static void shyFirstOfThem() {
        Check c = new Check("of SHY ones that wait for 30 minutes or more the first one");
        // The QUEUE: COW, SHY since 0, COW, SHY since gap, SHY since gap.
        int[][] gapAndBox = {{0, 1, 3, 4, 0, 2}, {1, 1, 3, 4, 0, 2}, {3, 1, 0, 3, 4, 2}, {29, 1, 0, 2, 3, 4}};
        for (int[] one : gapAndBox) {
            MilkBox x = new MilkBox();
            for (int kind : new int[] {0, 1, 0, 1, 1}) {
                x.cow(kind, 1, 0, 0);
            }
            x.power(false);
            x.come(0, 1);
            x.come(1, 1);
            x.come(2, 1);
            Farm.passTo(x, one[0]);
            x.come(3, 1);
            x.come(4, 1);
            Farm.passTo(x, 30);
            x.power(true);
            // Each takes 2 minutes: with a gap of 3 the others wait for 29 minutes in 32, 31 in 34.
            for (int i = 1; i < one.length; i++) {
                c.due("gap " + one[0] + ", box() in " + x.total(6), x.box(), one[i]);
                x.pass(2);
            }
        }
    }

    private static void shyAlone() {
        Check c = new Check("else the first one, also if it is SHY");
        for (int minutes = 27; minutes <= 31; minutes++) {
            MilkBox x = Farm.withCow(1, 1, 0, 0);
            x.cow(0, 1, 0, 0);
            x.cow(1, 1, 0, 0);
            x.power(false);
            x.come(0, 1);
            x.come(1, 1);
            x.come(2, 1);
            x.pass(minutes);
            x.power(true);
            c.due("box() behind " + minutes, x.box(), 0);
            c.due("queue(0) behind " + minutes, x.queue(0), 1);
            c.due("queue(1) behind " + minutes, x.queue(1), 2);
            x.pass(2);
            c.due("box() then, behind " + (minutes + 2), x.box(), minutes + 2 < 30 ? 1 : 2);
        }
    }

    private static void shyByPowerAndByEnd() {
        Check c = new Check("Whenever the BOX is free: SHY ones when a milking ENDS under way");
        // 360 milk and 10 of TROUBLE: 30 minutes in the BOX, from 720 on.
        c.around("a SHY one that comes behind minutes:", behind -> {
            MilkBox x = Farm.having(360, 0);
            x.cow(0, 1, 0, 0);
            x.cow(1, 1, 0, 0);
            for (int teat = 0; teat < 3; teat++) {
                x.trouble(0, teat, 3);
            }
            x.trouble(0, 3, 1);
            x.come(0, 1);
            x.come(1, 1);
            Farm.passTo(x, 720 + behind);
            x.come(2, 1);
            x.pass(40);
            return x.visit(2, 1, 5);
        }, new int[][] {{0, 750}, {1, 752}, {2, 752}});
    }

    // ---- a milking

    private static void partedAmongTeats() {
        Check c = new Check("what it HAS is parted among 4 teats, cut (the first one has what is over, too)");
        int[][] milkFirstOther = {{0, 0, 0}, {1, 1, 0}, {2, 2, 0}, {3, 3, 0}, {4, 1, 1}, {5, 2, 1}, {6, 3, 1}, {7, 4, 1},
            {8, 2, 2}, {9, 3, 2}, {11, 5, 2}, {12, 3, 3}, {397, 100, 99}, {399, 102, 99}, {400, 100, 100}};
        for (int[] one : milkFirstOther) {
            for (int teat = 0; teat < 4; teat++) {
                MilkBox x = Farm.having(one[0], 0);
                x.trouble(0, teat, 4);
                Farm.milk(x, 0);
                int ofTeat = teat == 0 ? one[1] : one[2];
                c.due("milked of " + one[0] + " without teat " + teat, x.visit(0, 1, 7), one[0] - ofTeat);
                // It HAS what was LEFT, and what has grown since it BEGAN.
                int grown = (x.total(6) - 2 * one[0]) / 2;
                c.due("HAS of " + one[0] + " without teat " + teat, x.about(0, 0), ofTeat + grown);
            }
        }
    }

    private static void troubleAtFirst() {
        Check c = new Check("A teat has TROUBLE t (0 at first, as told ahead)");
        for (int teat = 0; teat < 4; teat++) {
            MilkBox x = Farm.withCows(2);
            c.due("at first, teat " + teat, x.trouble(0, teat, 2), 0);
            c.due("as told, teat " + teat, x.trouble(0, teat, 9), 2);
            c.due("as told, teat " + teat, x.trouble(0, teat, 0), 9);
            c.due("another cow's, teat " + teat, x.trouble(1, teat, 0), 0);
            c.due("the next teat", x.trouble(0, (teat + 1) % 4, 0), 0);
        }
    }

    // 80 milk, 20 of each teat; one teat has TROUBLE.
    private static MilkBox withTrouble(int teat, int t) {
        MilkBox x = Farm.having(80, 0);
        x.trouble(0, teat, t);
        x.come(0, 1);
        return x;
    }

    private static void troubleAbove3() {
        Check c = new Check("if t is above 3, it is LOST in this milking: nothing is milked of it");
        for (int teat = 0; teat < 4; teat++) {
            int of = teat;
            c.around("LOST, teat " + of + ", t", t -> withTrouble(of, t).visit(0, 1, 9),
                new int[][] {{0, 0}, {1, 0}, {2, 0}, {3, 0}, {4, 1}, {5, 1}, {9, 1}});
            c.around("milked, teat " + of + ", t", t -> {
                MilkBox x = withTrouble(of, t);
                x.pass(20);
                return x.visit(0, 1, 7);
            }, new int[][] {{0, 80}, {2, 80}, {3, 80}, {4, 60}, {5, 60}, {9, 60}});
        }
        for (int lost = 0; lost <= 4; lost++) {
            MilkBox x = Farm.having(80, 0);
            for (int teat = 0; teat < 4; teat++) {
                x.trouble(0, teat, teat < lost ? 4 : 3);
            }
            x.come(0, 1);
            c.due("LOST of " + lost, x.visit(0, 1, 9), lost);
            c.due("ends() of " + lost, x.ends(), 160 + 2 + 12 + 4 - lost);
        }
    }

    private static void troubleMinutes() {
        Check c = new Check("one for each TROUBLE of a teat (3 at most of each)");
        for (int teat = 0; teat < 4; teat++) {
            int of = teat;
            // 2 minutes, and 4 for 80 milk, 3 for 60.
            c.around("ends(), teat " + of + ", t", t -> withTrouble(of, t).ends() - 160,
                new int[][] {{0, 6}, {1, 7}, {2, 8}, {3, 9}, {4, 8}, {5, 8}, {8, 8}, {9, 8}});
        }
    }

    private static void troubleBehind() {
        Check c = new Check("it is 0 behind each milking that BEGAN");
        MilkBox x = Farm.withCow(0, 1, 10, 0);
        x.cow(0, 1, 0, 0);
        x.come(1, 1);
        for (int teat = 0; teat < 4; teat++) {
            x.trouble(0, teat, 1 + teat);
        }
        x.come(0, 1);
        c.due("one that waits", x.trouble(0, 0, 1), 1);
        x.pass(2);
        // 2 minutes, and 1 + 2 + 3 + 3 of TROUBLE.
        c.due("ends()", x.ends(), 13);
        x.pass(9);
        c.due("box()", x.box(), 0);
        for (int teat = 0; teat < 4; teat++) {
            c.due("under way, teat " + teat, x.trouble(0, teat, 0), 0);
        }
        x.pass(2);
        c.due("box()", x.box(), NONE);
        c.due("behind one that ENDED", x.trouble(0, 1, 5), 0);
        MilkBox y = beganIn10(1440);
        y.trouble(0, 2, 7);
        y.come(0, 1);
        c.due("a REFUSAL did not BEGIN", y.trouble(0, 2, 7), 7);
        y.pass(1440);
        y.power(true);
        y.come(0, 1);
        y.power(false);
        c.due("behind a CUT", y.trouble(0, 2, 7), 0);
    }

    private static void minutesBy20() {
        Check c = new Check("It takes 2 minutes .. and one for each 20 of its milk that are begun");
        int[][] milkAndMinutes = {{0, 2}, {1, 3}, {2, 3}, {19, 3}, {20, 3}, {21, 4}, {39, 4}, {40, 4}, {41, 5}, {60, 5},
            {61, 6}, {379, 21}, {380, 21}, {381, 22}, {399, 22}, {400, 22}};
        for (int[] one : milkAndMinutes) {
            MilkBox x = Farm.having(one[0], 0);
            x.come(0, 1);
            c.due("ends() with " + one[0], x.ends(), 2 * one[0] + one[1]);
            x.pass(one[1]);
            c.due("milked with " + one[0], x.visit(0, 1, 7), one[0]);
        }
    }

    private static void minutesByMilkNotLost() {
        Check c = new Check("one for each 20 of its milk: of teats that are not LOST");
        // Milk, the teat that is LOST, minutes: 2, 3 of TROUBLE, and those of the others' milk.
        int[][] milkTeatMinutes = {{80, 0, 8}, {81, 0, 8}, {81, 1, 9}, {83, 0, 8}, {83, 3, 9}, {84, 0, 9}, {79, 1, 8},
            {3, 0, 5}, {3, 1, 6}, {4, 0, 6}};
        for (int[] one : milkTeatMinutes) {
            MilkBox x = Farm.having(one[0], 0);
            x.trouble(0, one[1], 9);
            x.come(0, 1);
            c.due("ends() with " + one[0] + " but of teat " + one[1], x.ends(), 2 * one[0] + one[2]);
        }
    }

    private static void endsAllAtOnce() {
        Check c = new Check("then it ENDS, all at once: the BOX is free, and the next one enters in that minute");
        for (int minutes = 4; minutes <= 6; minutes++) {
            MilkBox x = Farm.having(60, 1000);
            x.cow(0, 1, 0, 0);
            x.come(0, 1);
            x.come(1, 1);
            x.pass(minutes);
            boolean ended = minutes >= 5;
            String what = minutes + " minutes, ";
            c.due(what + "box()", x.box(), ended ? 1 : 0);
            c.due(what + "queue(0)", x.queue(0), ended ? NONE : 1);
            c.due(what + "ENDED", x.visit(0, 1, 6), ended ? 125 : NONE);
            c.due(what + "milked", x.visit(0, 1, 7), ended ? 60 : NONE);
            c.due(what + "went", x.visit(0, 1, 8), ended ? 0 : NONE);
            c.due(what + "FEED", x.visit(0, 1, 10), ended ? 600 : NONE);
            c.due(what + "THE TANK", x.total(0), ended ? 60 : 0);
            c.due(what + "all FEED", x.total(5), ended ? 600 : 0);
            c.due(what + "the next one BEGAN", x.visit(1, 1, 5), ended ? 125 : NONE);
            c.due(what + "ends()", x.ends(), ended ? 127 : 125);
        }
    }

    private static void leftOfLost() {
        Check c = new Check("What is milked is all that is of teats that are not LOST; what is not is LEFT");
        for (int lost = 0; lost <= 4; lost++) {
            MilkBox x = Farm.having(82, 0);
            for (int teat = 0; teat < lost; teat++) {
                x.trouble(0, teat, 4);
            }
            // The first teat has 22, the others 20.
            int left = lost == 0 ? 0 : 2 + 20 * lost;
            x.come(0, 1);
            int minutes = x.ends() - 164;
            x.pass(minutes);
            c.due(lost + " LOST, milked", x.visit(0, 1, 7), 82 - left);
            c.due(lost + " LOST, HAS", x.about(0, 0), left + minutes / 2);
            c.due(lost + " LOST, all that was milked", x.about(0, 5), 82 - left);
        }
    }

    // ---- power

    private static MilkBox cutBehind(int milk, int[] troubles, int minutes) {
        MilkBox x = Farm.having(milk, 5000);
        for (int teat = 0; teat < 4; teat++) {
            x.trouble(0, teat, troubles[teat]);
        }
        x.come(0, 1);
        Farm.passTo(x, 2 * milk + minutes);
        x.power(false);
        return x;
    }

    private static void powerEndsMilking() {
        Check c = new Check("If THE POWER goes off: milked are 20 for each whole minute behind its first 2");
        int[][] minutesMilkedKind = {{0, 0, 2}, {1, 0, 2}, {2, 0, 2}, {3, 20, 2}, {4, 40, 2}, {5, 45, 1}, {6, 45, 1}};
        for (int[] one : minutesMilkedKind) {
            MilkBox x = cutBehind(45, new int[4], one[0]);
            String what = one[0] + " minutes, ";
            c.due(what + "milked", x.visit(0, 1, 7), one[1]);
            c.due(what + "KIND", x.visit(0, 1, 0), one[2]);
            c.due(what + "ENDED", x.visit(0, 1, 6), 90 + Math.min(one[0], 5));
            c.due(what + "HAS", x.about(0, 0), 45 - one[1] + one[0] / 2);
            c.due(what + "box()", x.box(), NONE);
            c.due(what + "ends()", x.ends(), NONE);
            c.due(what + "FEED", x.visit(0, 1, 10), 10 * one[1]);
            c.due(what + "THE TANK", x.total(0), one[1]);
        }
    }

    private static void powerBehindTroubles() {
        Check c = new Check("behind its first 2 and TROUBLES'");
        int[][] troubles = {{1, 0, 0, 0}, {0, 0, 0, 3}, {3, 3, 3, 3}, {0, 9, 0, 0}, {4, 0, 5, 1}};
        int[] first = {3, 5, 14, 5, 9};
        for (int i = 0; i < troubles.length; i++) {
            int[] told = troubles[i];
            int behind = first[i];
            c.around("case " + i + ", minutes", minutes -> cutBehind(200, told, minutes).visit(0, 2, 7), new int[][] {
                {0, 0}, {behind - 1, 0}, {behind, 0}, {behind + 1, 20}, {behind + 2, 40}, {behind + 3, 60}});
        }
    }

    private static void powerNoMoreThanElse() {
        Check c = new Check("but no more than else");
        // By the minute ahead of the last one 20 less, at most, than all that is of teats that are not LOST.
        int[][] milkMinutesMilked = {{0, 1, 0}, {0, 2, 0}, {1, 2, 0}, {1, 3, 1}, {20, 2, 0}, {20, 3, 20}, {20, 4, 20},
            {21, 3, 20}, {21, 4, 21}, {21, 5, 21}, {400, 21, 380}, {400, 22, 400}, {400, 23, 400}};
        for (int[] one : milkMinutesMilked) {
            MilkBox x = cutBehind(one[0], new int[4], one[1]);
            c.due("milked of " + one[0] + " in " + one[1], x.visit(0, 1, 7), one[2]);
        }
        // All four LOST: nothing, however long it takes.
        c.around("all LOST, minutes", minutes -> cutBehind(400, new int[] {4, 4, 4, 4}, minutes).visit(0, 1, 7),
            new int[][] {{0, 0}, {13, 0}, {14, 0}, {15, 0}});
    }

    private static void powerAndTheOthers() {
        Check c = new Check("the others wait on");
        MilkBox x = Farm.withCows(12);
        for (int cow = 0; cow < 12; cow++) {
            x.come(cow, 1);
        }
        x.pass(1);
        x.power(false);
        c.due("box()", x.box(), NONE);
        c.due("total(9)", x.total(9), 11);
        x.pass(500);
        x.power(false);
        for (int i = 0; i < 11; i++) {
            c.due("queue(" + i + ")", x.queue(i), i + 1);
            c.due("KIND of one that waits", x.visit(i + 1, 3, 0), 1);
        }
        c.due("queue(11)", x.queue(11), NONE);
        c.due("the CUT one", x.visit(0, 3, 0), 2);
        x.power(true);
        c.due("box()", x.box(), 1);
        c.due("total(9)", x.total(9), 10);
    }

    private static void powerInTheLastMinute() {
        Check c = new Check("What ENDS in the minute in which THE POWER goes off has ENDED ahead of that");
        for (int minutes = 4; minutes <= 6; minutes++) {
            MilkBox x = Farm.having(50, 0);
            x.cow(0, 1, 0, 0);
            x.come(0, 1);
            x.come(1, 1);
            x.pass(minutes);
            x.power(false);
            String what = "off behind " + minutes + ", ";
            c.due(what + "KIND", x.visit(0, 1, 0), minutes < 5 ? 2 : 1);
            c.due(what + "milked", x.visit(0, 1, 7), minutes < 5 ? 40 : 50);
            c.due(what + "KIND of the next", x.visit(1, 1, 0), minutes < 5 ? 1 : 2);
            c.due(what + "the next BEGAN", x.visit(1, 1, 5), minutes < 5 ? NONE : 105);
            c.due(what + "the next ENDED", x.visit(1, 1, 6), minutes < 5 ? NONE : 100 + minutes);
            c.due(what + "how many wait", x.total(9), minutes < 5 ? 1 : 0);
        }
    }

    // ---- where milk goes

    private static void canByMinute() {
        Check c = new Check("GIVEN to the CAN, if the cow is SICK, or WITHHELD to a minute above that one");
        // 20 milk, from 40 to 43.
        IntUnaryOperator went = minute -> {
            MilkBox x = Farm.having(20, 0);
            x.withhold(0, minute);
            Farm.milk(x, 0);
            return x.visit(0, 1, 8);
        };
        c.around("WITHHELD to", went,
            new int[][] {{0, 0}, {40, 0}, {41, 0}, {42, 0}, {43, 0}, {44, 1}, {45, 1}, {200000, 1}});
        c.around("WITHHELD, CUT in 43 of 46, to", minute -> {
            MilkBox x = Farm.having(20, 0);
            x.withhold(0, minute);
            x.trouble(0, 0, 3);
            x.come(0, 1);
            x.pass(3);
            x.power(false);
            return x.visit(0, 2, 8);
        }, new int[][] {{42, 0}, {43, 0}, {44, 1}, {46, 1}});
    }

    private static void tankRoomForAll() {
        Check c = new Check("else to THE TANK, if that has room for all of it; else it is POURED");
        for (int room = 49; room <= 51; room++) {
            MilkBox x = Farm.having(50, 0);
            x.room(room);
            Farm.milk(x, 0);
            c.due("ROOM " + room + ", went", x.visit(0, 1, 8), room < 50 ? 2 : 0);
            c.due("ROOM " + room + ", THE TANK", x.total(0), room < 50 ? 0 : 50);
            c.due("ROOM " + room + ", POURED", x.total(2), room < 50 ? 50 : 0);
            c.due("ROOM " + room + ", the CAN", x.total(1), 0);
        }
        // 50 are in it from 105 on; 30 come to it from 160 on.
        for (int room = 79; room <= 81; room++) {
            MilkBox x = Farm.having(50, 0);
            Farm.milk(x, 0);
            x.room(room);
            Farm.passTo(x, 160);
            Farm.milk(x, 0);
            c.due("ROOM " + room + " with 50, went", x.visit(1, 1, 8), room < 80 ? 2 : 0);
            c.due("ROOM " + room + " with 50, THE TANK", x.total(0), room < 80 ? 50 : 80);
            c.due("ROOM " + room + " with 50, POURED", x.total(2), room < 80 ? 30 : 0);
        }
        MilkBox none = Farm.having(50, 0);
        none.room(50);
        Farm.milk(none, 0);
        none.come(0, 1);
        none.power(false);
        c.due("a full TANK has room for nothing", none.visit(1, 2, 8), 0);
    }

    private static void roomAtFirst() {
        Check c = new Check("its ROOM is 1 .. 100000; 5000 at first");
        c.due("room(1)", new MilkBox().room(1), 5000);
        // 12 cows give 4800 by 1064; cow 0 gives one more for each 2 minutes behind 800.
        int[][] minuteTankPoured = {{1198, 4999, 0}, {1200, 5000, 0}, {1202, 4800, 201}};
        for (int[] one : minuteTankPoured) {
            MilkBox x = new MilkBox();
            for (int cow = 0; cow < 12; cow++) {
                x.cow(0, 30, 0, 0);
            }
            x.pass(800);
            for (int cow = 0; cow < 12; cow++) {
                x.come(cow, 1);
            }
            x.pass(300);
            c.due("THE TANK", x.total(0), 4800);
            Farm.passTo(x, one[0]);
            Farm.milk(x, 0);
            c.due("THE TANK, from " + one[0], x.total(0), one[1]);
            c.due("POURED, from " + one[0], x.total(2), one[2]);
        }
    }

    private static void tankFullAtMost() {
        Check c = new Check("its ROOM is 1 .. 100000: a TANK with all of that");
        MilkBox x = new MilkBox();
        x.room(100000);
        for (int cow = 0; cow < 12; cow++) {
            x.cow(0, 30, 0, 0);
        }
        for (int milking = 0; milking < 249; milking++) {
            // 12 milkings of 22 minutes; behind 1100 each cow HAS 400 again.
            if (milking % 12 == 0) {
                x.pass(1100);
            }
            x.come(milking % 12, 1);
        }
        x.pass(1100);
        c.due("THE TANK behind 249", x.total(0), 99600);
        c.due("room(99599)", x.room(99599), STATE);
        x.come(0, 1);
        x.pass(22);
        c.due("THE TANK behind 250", x.total(0), 100000);
        c.due("room(99999)", x.room(99999), STATE);
        c.due("room(100000)", x.room(100000), 100000);
        c.due("room(100001)", x.room(100001), BAD);
        x.pass(2);
        x.come(1, 1);
        x.pass(22);
        c.due("THE TANK behind 251", x.total(0), 100000);
        c.due("POURED", x.total(2), 400);
        c.due("pick(100001)", x.pick(100001), BAD);
        c.due("pick(99999)", x.pick(99999), 99999);
        c.due("THE TANK", x.total(0), 1);
        c.due("pick(100000)", x.pick(100000), 1);
        c.due("taken away", x.total(3), 100000);
        c.due("room(1)", x.room(1), 100000);
    }

    // ---- feed

    private static void feedForEach() {
        Check c = new Check("FEED: 10 grams for each of what was milked, but no more than is left of its FEED");
        int[][] milkFeedDue = {{50, 0, 0}, {50, 1, 1}, {50, 499, 499}, {50, 500, 500}, {50, 501, 500}, {50, 5000, 500},
            {0, 5000, 0}, {1, 9, 9}, {1, 10, 10}, {1, 11, 10}, {400, 3999, 3999}, {400, 4000, 4000}, {400, 4001, 4000},
            {400, 5000, 4000}};
        for (int[] one : milkFeedDue) {
            MilkBox x = Farm.having(one[0], one[1]);
            Farm.milk(x, 0);
            String what = one[0] + " milked, FEED " + one[1] + ", ";
            c.due(what + "of the VISIT", x.visit(0, 1, 10), one[2]);
            c.due(what + "of this DAY", x.about(0, 3), one[2]);
            c.due(what + "all", x.total(5), one[2]);
        }
    }

    private static void feedLeftOfTheDay() {
        Check c = new Check("no more than is left of its FEED on that DAY");
        // 1000 grams for the first 100 milk; the next 60 find so much left.
        int[][] feedAndSecond = {{1000, 0}, {1001, 1}, {1599, 599}, {1600, 600}, {1601, 600}, {5000, 600}};
        for (int[] one : feedAndSecond) {
            MilkBox x = Farm.having(100, one[0]);
            Farm.milk(x, 0);
            Farm.passTo(x, 320);
            Farm.milk(x, 0);
            c.due("FEED " + one[0] + ", the first", x.visit(0, 1, 10), 1000);
            c.due("FEED " + one[0] + ", the second", x.visit(1, 1, 10), one[1]);
            c.due("FEED " + one[0] + ", this DAY", x.about(0, 3), 1000 + one[1]);
            c.due("FEED " + one[0] + ", all", x.total(5), 1000 + one[1]);
        }
        MilkBox other = Farm.withCow(0, 30, 0, 100);
        other.cow(0, 30, 0, 100);
        other.pass(100);
        other.come(0, 1);
        other.come(1, 1);
        other.pass(20);
        c.due("another cow has its own", other.visit(1, 1, 10), 100);
    }

    private static void feedOnThatDay() {
        Check c = new Check("its FEED on that DAY: that in which it ENDED");
        // All 70 grams of DAY 0 are fed by 922. Then it HAS 258 to 260: 2 minutes, 6 of TROUBLE, 13 for its milk.
        int[][] cameEndedFeed = {{1417, 1438, 0}, {1418, 1439, 0}, {1419, 1440, 70}, {1420, 1441, 70}};
        for (int[] one : cameEndedFeed) {
            MilkBox x = Farm.withCow(0, 30, 0, 70);
            x.pass(10);
            Farm.milk(x, 0);
            Farm.passTo(x, 900);
            Farm.milk(x, 0);
            Farm.passTo(x, one[0]);
            c.due("fed of DAY 0", x.about(0, 3), 70);
            x.trouble(0, 0, 3);
            x.trouble(0, 1, 3);
            Farm.milk(x, 0);
            c.due("ENDED from " + one[0], x.visit(2, 1, 6), one[1]);
            c.due("FEED, ENDED in " + one[1], x.visit(2, 1, 10), one[2]);
            c.due("this DAY, ENDED in " + one[1], x.about(0, 3), 70);
        }
    }

    // ---- readings and alarms

    private static void readings() {
        Check c = new Check("a cow that COMES has a READING (0 .. 1000)");
        c.around("come with", reading -> Farm.withCows(1).come(0, reading), new int[][] {
            {LEAST, BAD}, {-2, BAD}, {-1, BAD}, {0, 0}, {1, 0}, {999, 0}, {1000, 0}, {1001, BAD}, {1002, BAD}, {MOST, BAD}});
        c.around("READING", reading -> {
            MilkBox x = Farm.withCows(1);
            x.come(0, reading);
            return x.visit(0, 3, 3);
        }, new int[][] {{-1, UNKNOWN}, {0, 0}, {1, 1}, {999, 999}, {1000, 1000}, {1001, UNKNOWN}});
        c.around("how many READINGS behind", reading -> {
            MilkBox x = Farm.withCows(1);
            x.come(0, reading);
            return x.about(0, 6);
        }, new int[][] {{-1, 0}, {0, 1}, {1000, 1}, {1001, 0}});
    }

    // The ALARM of the last of these READINGS, all but the first of VISITS that are REFUSED.
    private static int alarmOfRefused(int[] ahead, int reading) {
        MilkBox x = Farm.withCow(0, 1, 1440, 0);
        for (int one : ahead) {
            x.come(0, one);
            x.power(false);
        }
        return x.visit(x.come(0, reading), 3, 4);
    }

    // The same of VISITS that are MILKINGS.
    private static int alarmOfMilked(int[] ahead, int reading) {
        MilkBox x = Farm.withCow(0, 1, 0, 0);
        for (int one : ahead) {
            x.come(0, one);
            x.pass(3);
        }
        return x.visit(x.come(0, reading), 1, 4);
    }

    private static void alarms(Check c, int[] ahead, int[][] readingsAndDue) {
        c.around(ahead.length + " ahead, MILKED,", reading -> alarmOfMilked(ahead, reading), readingsAndDue);
        c.around(ahead.length + " ahead, REFUSED,", reading -> alarmOfRefused(ahead, reading), readingsAndDue);
    }

    private static void alarmOfThree() {
        Check c = new Check("ALARM: if at least 3 READINGS of its own came ahead");
        alarms(c, new int[] {}, new int[][] {{0, 0}, {1000, 0}});
        alarms(c, new int[] {0}, new int[][] {{0, 0}, {1, 0}, {1000, 0}});
        alarms(c, new int[] {0, 0}, new int[][] {{0, 0}, {1, 0}, {1000, 0}});
        alarms(c, new int[] {0, 0, 0}, new int[][] {{0, 0}, {1, 1}, {1000, 1}});
        alarms(c, new int[] {0, 0, 0, 0}, new int[][] {{0, 0}, {1, 1}, {1000, 1}});
    }

    private static void alarmOfLatestFive() {
        Check c = new Check("by how many of the latest 5 of those there are (if fewer, all)");
        // 10 * 3 r above 12 * 1200; 10 * 4 r above 12 * 1300; 10 * 5 r above 12 * 1400; then without the first.
        alarms(c, new int[] {1000, 100, 100}, new int[][] {{479, 0}, {480, 0}, {481, 1}});
        alarms(c, new int[] {1000, 100, 100, 100}, new int[][] {{389, 0}, {390, 0}, {391, 1}});
        alarms(c, new int[] {1000, 100, 100, 100, 100}, new int[][] {{335, 0}, {336, 0}, {337, 1}});
        alarms(c, new int[] {1000, 100, 100, 100, 100, 100}, new int[][] {{119, 0}, {120, 0}, {121, 1}});
        alarms(c, new int[] {100, 100, 100, 100, 100, 1000}, new int[][] {{335, 0}, {336, 0}, {337, 1}});
        alarms(c, new int[] {100, 200, 300, 400, 500, 600, 700}, new int[][] {{599, 0}, {600, 0}, {601, 1}});
        // Behind 10 and 11 the latest 5 have been others twice over.
        alarms(c, new int[] {900, 900, 900, 900, 900, 10, 10, 10, 10, 10}, new int[][] {{11, 0}, {12, 0}, {13, 1}});
        alarms(c, new int[] {900, 900, 900, 900, 900, 900, 10, 10, 10, 10, 10}, new int[][] {{11, 0}, {12, 0}, {13, 1}});
        alarms(c, new int[] {10, 10, 10, 10, 10, 10, 900, 10, 10, 10, 10}, new int[][] {{225, 0}, {226, 1}, {227, 1}});
    }

    private static void alarmAbove() {
        Check c = new Check("10 times it .. is above 12 times their sum");
        alarms(c, new int[] {100, 100, 100}, new int[][] {{119, 0}, {120, 0}, {121, 1}});
        alarms(c, new int[] {5, 5, 5}, new int[][] {{5, 0}, {6, 0}, {7, 1}});
        alarms(c, new int[] {5, 5, 5, 5, 5}, new int[][] {{5, 0}, {6, 0}, {7, 1}});
        // 30000 beside 12 * 2499, 2500 and 2501.
        alarms(c, new int[] {833, 833, 833}, new int[][] {{999, 0}, {1000, 1}});
        alarms(c, new int[] {834, 833, 833}, new int[][] {{1000, 0}});
        alarms(c, new int[] {834, 834, 833}, new int[][] {{1000, 0}});
        alarms(c, new int[] {1000, 1000, 1000, 1000, 1000}, new int[][] {{999, 0}, {1000, 0}});
        alarms(c, new int[] {0, 0, 0, 0, 1}, new int[][] {{0, 0}, {1, 1}});
    }

    private static void alarmOfItsOwn() {
        Check c = new Check("READINGS of its own");
        MilkBox x = Farm.withCow(0, 1, 0, 0);
        x.cow(0, 1, 0, 0);
        for (int i = 0; i < 3; i++) {
            x.come(0, 10);
            x.pass(3);
            if (i < 2) {
                x.come(1, 1000);
                x.pass(3);
            }
        }
        x.come(0, 13);
        c.due("3 of its own", x.visit(x.visitOf(0, 3), 1, 4), 1);
        x.pass(3);
        x.come(1, 1000);
        c.due("2 of its own", x.visit(x.visitOf(1, 2), 1, 4), 0);
        c.due("total(10)", x.total(10), 1);
        MilkBox y = Farm.withCows(1);
        y.come(0, 10);
        c.due("in the BOX", y.come(0, 10), STATE);
        c.due("BAD", y.come(0, 1001), BAD);
        c.due("READINGS of calls that were refused", y.about(0, 6), 1);
        y.pass(3);
        y.come(0, 10);
        y.pass(3);
        y.come(0, 1000);
        c.due("2 ahead", y.visit(2, 1, 4), 0);
    }

    private static void alarmAlsoIfRefused() {
        Check c = new Check("(Also if it is REFUSED.)");
        MilkBox x = beganIn10(1440);
        for (int i = 1; i <= 5; i++) {
            x.come(0, i < 3 ? 1 : 100 * i);
            c.due("KIND of " + i, x.visit(i, 3, 0), 0);
            c.due("ALARM of " + i, x.visit(i, 0, 4), i < 3 ? 0 : 1);
            c.due("ALARMS behind " + i, x.total(10), Math.max(0, i - 2));
            c.due("READINGS behind " + i, x.about(0, 6), i + 1);
        }
    }

    // ---- visits

    private static void visitsNumbered() {
        Check c = new Check("VISITS are numbered as the cows COME");
        MilkBox x = beganIn10(1440);
        x.cow(1, 1, 0, 0);
        c.due("visit(1, 3, 0)", x.visit(1, 3, 0), UNKNOWN);
        c.due("a REFUSAL", x.come(0, 1), 1);
        c.due("one that waits", x.come(1, 1), 2);
        c.due("a call that is refused", x.come(1, 1), STATE);
        c.due("another REFUSAL", x.come(0, 1), 3);
        c.due("visit(3, 3, 1)", x.visit(3, 3, 1), 0);
        c.due("visit(4, 3, 1)", x.visit(4, 3, 1), UNKNOWN);
    }

    private static void visitsAtMost() {
        Check c = new Check("VISITS (500 at most)");
        c.around("come behind so many:", count -> Farm.withVisits(count).come(0, 1),
            new int[][] {{1, 1}, {498, 498}, {499, 499}, {500, FULL}, {501, FULL}});
        c.around("VISITS behind so many:", count -> Farm.withVisits(count).total(8),
            new int[][] {{1, 1}, {499, 499}, {500, 500}, {501, 500}});
        c.around("REFUSALS behind so many:", count -> Farm.withVisits(count).total(12),
            new int[][] {{1, 0}, {499, 498}, {500, 499}, {501, 499}});
        c.around("READINGS behind so many:", count -> Farm.withVisits(count).about(0, 6),
            new int[][] {{499, 499}, {500, 500}, {501, 500}});
        c.around("the last VISIT of so many:", count -> Farm.withVisits(count).visit(count - 1, 3, 3),
            new int[][] {{499, 1}, {500, 1}, {501, UNKNOWN}});
        // The last VISIT is as good as any: it waits, and is milked.
        MilkBox x = Farm.withVisits(499);
        x.pass(1440);
        c.due("the 500th", x.come(0, 1), 499);
        c.due("box()", x.box(), 0);
        x.pass(20);
        c.due("milked", x.visit(499, 1, 7), 144);
        c.due("the 501st", x.come(0, 1), FULL);
    }

    private static void visitsSoFar() {
        Check c = new Check("One that waits, or is under way, is a MILKING with what is told so far");
        MilkBox x = Farm.having(40, 5000);
        x.trouble(0, 2, 4);
        x.power(false);
        x.come(0, 7);
        // In 80 it comes, in 85 it BEGINS with 42: 32 in 2 + 3 + 2 minutes.
        int[] waits = {1, 0, 80, 7, 0, NONE, NONE, NONE, NONE, NONE, NONE};
        int[] underWay = {1, 0, 80, 7, 0, 85, NONE, NONE, NONE, 1, NONE};
        int[] ended = {1, 0, 80, 7, 0, 85, 92, 32, 0, 1, 320};
        soFar(c, "waits", x, waits);
        x.pass(5);
        soFar(c, "waits", x, waits);
        x.power(true);
        soFar(c, "under way", x, underWay);
        x.pass(6);
        soFar(c, "under way", x, underWay);
        x.pass(1);
        soFar(c, "ended", x, ended);
    }

    private static void soFar(Check c, String state, MilkBox x, int[] parts) {
        for (int what = 0; what < parts.length; what++) {
            c.due(state + ", visit(0, 1, " + what + ")", x.visit(0, 1, what), parts[what]);
        }
        c.due(state + ", as a CUT", x.visit(0, 2, 0), CAST);
        c.due(state + ", as a REFUSAL", x.visit(0, 0, 0), CAST);
    }
}
