import java.util.function.IntUnaryOperator;

/**
 * The boundaries that the promises name, call by call: a test for each sentence, with inputs at the boundary and on
 * each side of it. Those of a cow's parts, of the clock and of milkings stand in EdgeTermsTest.
 */
public final class EdgeCallsTest {
    private static final int UNKNOWN = -1, BAD = -2, STATE = -3, FULL = -4, NONE = -9, CAST = -13;
    private static final int LEAST = Integer.MIN_VALUE, MOST = Integer.MAX_VALUE;

    public static void main(String[] args) {
        newHasNoCows();
        newHasAnEmptyTank();
        newIsInMinute0();
        newIsItsOwn();
        cowIsThereFromThisMinute();
        cowTellsItsNumber();
        unknownCows();
        takenKinds();
        takenWhats();
        withholdMinutes();
        withholdTellsAhead();
        troubleTeats();
        troubleBounds();
        troubleForTheNext();
        aboutWhats();
        aboutInTheBox();
        aboutBegan();
        aboutPlace();
        aboutReadings();
        passMinutes();
        passMeanwhile();
        comeState();
        powerTells();
        box();
        queuePlaces();
        ends();
        roomBounds();
        roomState();
        pickBounds();
        pickNoMore();
        totalWhats();
        totalSums();
        visitNumbers();
        visitKinds();
        visitWhats();
        visitMilkings();
        visitWhereItWent();
        visitOfPlaces();
        gaveDays();
        gaveByEnded();
        longestOfNone();
        longestThatBegan();
        rankPlaces();
        rankOfLikeOnes();
        untilBounds();
        untilLeast();
        untilInTheBox();
        Check.close();
    }

    // ---- promise 1

    private static void newHasNoCows() {
        Check c = new Check("promise 1: No cows");
        MilkBox x = new MilkBox();
        c.due("total(7)", x.total(7), 0);
        c.due("taken(0, 0, 0)", x.taken(0, 0, 0), UNKNOWN);
        c.due("withhold(0, 0)", x.withhold(0, 0), UNKNOWN);
        c.due("trouble(0, 0, 0)", x.trouble(0, 0, 0), UNKNOWN);
        c.due("about(0, 0)", x.about(0, 0), UNKNOWN);
        c.due("come(0, 0)", x.come(0, 0), UNKNOWN);
        c.due("visitOf(0, 0)", x.visitOf(0, 0), UNKNOWN);
        c.due("gave(0, 0)", x.gave(0, 0), UNKNOWN);
        c.due("until(0, 1)", x.until(0, 1), UNKNOWN);
        c.due("visit(0, 3, 0)", x.visit(0, 3, 0), UNKNOWN);
        c.due("box()", x.box(), NONE);
        c.due("queue(0)", x.queue(0), NONE);
        c.due("ends()", x.ends(), NONE);
        c.due("rank(0)", x.rank(0), NONE);
        c.due("longest()", x.longest(), 0);
        c.due("cow(0, 1, 0, 0)", x.cow(0, 1, 0, 0), 0);
        c.due("taken(0, 0, 0) then", x.taken(0, 0, 0), 0);
        c.due("rank(0) then", x.rank(0), 0);
    }

    private static void newHasAnEmptyTank() {
        Check c = new Check("promise 1: an empty TANK");
        MilkBox x = new MilkBox();
        for (int what = 0; what <= 5; what++) {
            c.due("total(" + what + ")", x.total(what), 0);
        }
        c.due("pick(1)", x.pick(1), 0);
        c.due("pick(100000)", x.pick(100000), 0);
        c.due("total(3)", x.total(3), 0);
        c.due("room(1)", x.room(1), 5000);
    }

    private static void newIsInMinute0() {
        Check c = new Check("promise 1: minute 0");
        MilkBox x = new MilkBox();
        c.due("total(6)", x.total(6), 0);
        x.cow(0, 30, 0, 0);
        x.come(0, 1);
        c.due("minute of a VISIT", x.visit(0, 3, 2), 0);
        c.due("pass(20000)", x.pass(20000), 20000);
    }

    private static void newIsItsOwn() {
        Check c = new Check("promise 1: a new object");
        MilkBox x = Farm.having(50, 0);
        x.room(60);
        Farm.milk(x, 0);
        x.power(false);
        MilkBox y = new MilkBox();
        for (int what = 0; what <= 12; what++) {
            c.due("another's total(" + what + ")", y.total(what), what == 11 ? 1 : 0);
        }
        c.due("another's room(1)", y.room(1), 5000);
        c.due("its room(70)", x.room(70), 60);
    }

    // ---- promise 2

    private static void cowIsThereFromThisMinute() {
        Check c = new Check("promise 2: A cow is there from this minute on");
        for (int minute : new int[] {0, 1, 59, 60, 99998, 100000}) {
            MilkBox x = Farm.at(minute);
            c.due("taken(0, 0, 1) ahead", x.taken(0, 0, 1), UNKNOWN);
            c.due("cow in " + minute, x.cow(1, 30, 1440, 9), 0);
            c.due("HAS in " + minute, x.about(0, 0), 0);
            c.due("until(0, 1) in " + minute, x.until(0, 1), 2);
            c.due("RIGHT in " + minute, x.about(0, 2), 1);
            c.due("FEED of this DAY in " + minute, x.about(0, 3), 0);
            c.due("READINGS in " + minute, x.about(0, 6), 0);
            c.due("come in " + minute, x.come(0, 1), 0);
        }
    }

    private static void cowTellsItsNumber() {
        Check c = new Check("promise 2: its number");
        MilkBox x = new MilkBox();
        for (int i = 0; i < 14; i++) {
            c.due("a BAD one ahead of " + i, x.cow(0, 0, 0, 0), BAD);
            c.due("cow " + i, x.cow(i % 3, 1 + i, 100 + i, 200 + i), i < 12 ? i : FULL);
            c.due("total(7) behind " + i, x.total(7), Math.min(12, i + 1));
        }
        for (int i = 0; i < 14; i++) {
            c.due("KIND of " + i, x.taken(i, 0, 0), i < 12 ? i % 3 : UNKNOWN);
            c.due("RATE of " + i, x.taken(i, 0, 1), i < 12 ? 1 + i : UNKNOWN);
            c.due("WAIT of " + i, x.taken(i, 0, 2), i < 12 ? 100 + i : UNKNOWN);
            c.due("FEED of " + i, x.taken(i, 0, 3), i < 12 ? 200 + i : UNKNOWN);
        }
    }

    // ---- UNKNOWN of all calls that take a cow

    private static void cowsOf3(String call, IntUnaryOperator answer, int due) {
        Check c = new Check("UNKNOWN: there is no such cow");
        c.around(call + " of cow", answer, new int[][] {{LEAST, UNKNOWN}, {-2, UNKNOWN}, {-1, UNKNOWN}, {0, due}, {1, due},
            {2, due}, {3, UNKNOWN}, {4, UNKNOWN}, {11, UNKNOWN}, {12, UNKNOWN}, {MOST, UNKNOWN}});
    }

    private static void unknownCows() {
        cowsOf3("taken", cow -> Farm.withCows(3).taken(cow, 0, 1), 1);
        cowsOf3("withhold", cow -> Farm.withCows(3).withhold(cow, 5), 0);
        cowsOf3("trouble", cow -> Farm.withCows(3).trouble(cow, 1, 5), 0);
        cowsOf3("about", cow -> Farm.withCows(3).about(cow, 2), 1);
        cowsOf3("come", cow -> Farm.withCows(3).come(cow, 5), 0);
        cowsOf3("visitOf", cow -> Farm.withCows(3).visitOf(cow, 0), NONE);
        cowsOf3("gave", cow -> Farm.withCows(3).gave(cow, 0), 0);
        cowsOf3("until", cow -> Farm.withCows(3).until(cow, 1), 60);
    }

    // ---- promise 3

    private static void takenKinds() {
        Check c = new Check("promise 3: taken as of a KIND (0: any; 1 SHY; 2 SICK)");
        c.around("a COW as", kind -> Farm.withCow(0, 7, 8, 9).taken(0, kind, 0),
            new int[][] {{LEAST, BAD}, {-1, BAD}, {0, 0}, {1, CAST}, {2, CAST}, {3, BAD}, {MOST, BAD}});
        c.around("a SHY one as", kind -> Farm.withCow(1, 7, 8, 9).taken(0, kind, 0),
            new int[][] {{LEAST, BAD}, {-1, BAD}, {0, 1}, {1, 1}, {2, CAST}, {3, BAD}, {MOST, BAD}});
        c.around("a SICK one as", kind -> Farm.withCow(2, 7, 8, 9).taken(0, kind, 0),
            new int[][] {{LEAST, BAD}, {-1, BAD}, {0, 2}, {1, CAST}, {2, 2}, {3, BAD}, {MOST, BAD}});
    }

    private static void takenWhats() {
        Check c = new Check("promise 3: its KIND (what = 0), RATE (1), WAIT (2), FEED (3)");
        for (int kind = 0; kind <= 2; kind++) {
            int of = kind;
            c.around("KIND " + of + ", what", what -> Farm.withCow(of, 7, 8, 9).taken(0, of, what), new int[][] {
                {LEAST, BAD}, {-1, BAD}, {0, of}, {1, 7}, {2, 8}, {3, 9}, {4, BAD}, {5, BAD}, {MOST, BAD}});
        }
    }

    // ---- promise 4

    private static void withholdMinutes() {
        Check c = new Check("promise 4: WITHHELD to a minute (0 .. 200000)");
        c.around("withhold to", minute -> Farm.withCows(1).withhold(0, minute), new int[][] {{LEAST, BAD}, {-2, BAD},
            {-1, BAD}, {0, 0}, {1, 0}, {100000, 0}, {199999, 0}, {200000, 0}, {200001, BAD}, {MOST, BAD}});
        c.around("told behind", minute -> {
            MilkBox x = Farm.withCows(1);
            x.withhold(0, 77);
            x.withhold(0, minute);
            return x.withhold(0, 0);
        }, new int[][] {{-1, 77}, {0, 0}, {1, 1}, {199999, 199999}, {200000, 200000}, {200001, 77}});
    }

    private static void withholdTellsAhead() {
        Check c = new Check("promise 4: (also earlier than ahead): to which it was (0: none)");
        for (int kind = 0; kind <= 2; kind++) {
            MilkBox x = Farm.withCow(kind, 1, 0, 0);
            x.cow(0, 1, 0, 0);
            c.due("none", x.withhold(0, 500), 0);
            c.due("later", x.withhold(0, 501), 500);
            c.due("earlier", x.withhold(0, 499), 501);
            c.due("the same", x.withhold(0, 499), 499);
            x.pass(498);
            c.due("in 498", x.withhold(0, 499), 499);
            x.pass(2);
            c.due("in 500, as told", x.withhold(0, 1), 499);
            c.due("earlier than now", x.withhold(0, 0), 1);
            c.due("none again", x.withhold(0, 7), 0);
            c.due("another cow", x.withhold(1, 7), 0);
        }
    }

    // ---- promise 5

    private static void troubleTeats() {
        Check c = new Check("promise 5: UNKNOWN (there is no such teat 0 .. 3)");
        c.around("teat", teat -> Farm.withCows(1).trouble(0, teat, 1), new int[][] {{LEAST, UNKNOWN}, {-2, UNKNOWN},
            {-1, UNKNOWN}, {0, 0}, {1, 0}, {2, 0}, {3, 0}, {4, UNKNOWN}, {5, UNKNOWN}, {MOST, UNKNOWN}});
        c.around("teat told behind", teat -> {
            MilkBox x = Farm.withCows(1);
            for (int each = 0; each < 4; each++) {
                x.trouble(0, each, 5 + each);
            }
            return x.trouble(0, teat, 1);
        }, new int[][] {{-1, UNKNOWN}, {0, 5}, {1, 6}, {2, 7}, {3, 8}, {4, UNKNOWN}});
    }

    private static void troubleBounds() {
        Check c = new Check("promise 5: TROUBLE (0 .. 9)");
        c.around("t", t -> Farm.withCows(1).trouble(0, 3, t), new int[][] {{LEAST, BAD}, {-2, BAD}, {-1, BAD}, {0, 0},
            {1, 0}, {8, 0}, {9, 0}, {10, BAD}, {11, BAD}, {MOST, BAD}});
        c.around("t told behind", t -> {
            MilkBox x = Farm.withCows(1);
            x.trouble(0, 3, 5);
            x.trouble(0, 3, t);
            return x.trouble(0, 3, 0);
        }, new int[][] {{-1, 5}, {0, 0}, {1, 1}, {8, 8}, {9, 9}, {10, 5}});
    }

    private static void troubleForTheNext() {
        Check c = new Check("promise 5: for its next milking that BEGINS");
        // Told ahead of its coming, while it waits, and in the minute in which it BEGAN.
        int[][] whenAndEnds = {{0, 15}, {1, 15}, {2, 12}};
        for (int[] one : whenAndEnds) {
            MilkBox x = Farm.withCows(1);
            x.power(false);
            for (int step = 0; step <= 2; step++) {
                if (step == one[0]) {
                    c.due("what it was", x.trouble(0, 1, 3), 0);
                }
                if (step == 0) {
                    x.come(0, 1);
                }
                if (step == 1) {
                    x.pass(10);
                    x.power(true);
                }
            }
            c.due("ends(), told in step " + one[0], x.ends(), one[1]);
            Farm.passTo(x, x.ends());
            int began = x.total(6);
            x.come(0, 1);
            c.due("ends() of the one behind it", x.ends() - began, one[0] == 2 ? 5 : 2);
        }
    }

    // ---- promise 6

    private static void aboutWhats() {
        Check c = new Check("promise 6: what 0 .. 6");
        c.around("about, what", what -> {
            MilkBox x = Farm.having(60, 5000);
            Farm.milk(x, 0);
            x.pass(3);
            x.power(false);
            x.come(0, 1);
            return x.about(0, what);
        }, new int[][] {{LEAST, BAD}, {-2, BAD}, {-1, BAD}, {0, 4}, {1, 120}, {2, 1}, {3, 600}, {4, 0}, {5, 60}, {6, 2},
            {7, BAD}, {8, BAD}, {MOST, BAD}});
    }

    private static void aboutInTheBox() {
        Check c = new Check("promise 6: in the BOX: since its milking BEGAN, with what was LEFT ahead of it 0");
        // 20 are LEFT of 80; the next milking BEGINS in 168 with 24.
        MilkBox x = Farm.having(80, 0);
        x.trouble(0, 3, 4);
        x.come(0, 1);
        c.due("in 160", x.about(0, 0), 0);
        x.pass(7);
        c.due("in 167, in the BOX", x.about(0, 0), 3);
        x.pass(1);
        c.due("in 168, behind it", x.about(0, 0), 24);
        x.come(0, 1);
        c.due("in 168, in the BOX again", x.about(0, 0), 0);
        x.pass(3);
        c.due("in 171", x.about(0, 0), 1);
        x.power(false);
        c.due("in 171, CUT", x.about(0, 0), 5);
    }

    private static void aboutBegan() {
        Check c = new Check("promise 6: the minute in which its latest milking BEGAN (1; NONE)");
        for (int minute : new int[] {0, 1, 99999, 100000}) {
            MilkBox x = Farm.at(minute);
            x.cow(0, 1, 2, 0);
            c.due("never", x.about(0, 1), NONE);
            x.power(false);
            x.come(0, 1);
            c.due("one that waits", x.about(0, 1), NONE);
            x.power(true);
            c.due("under way", x.about(0, 1), minute);
            c.due("RIGHT", x.about(0, 2), 0);
            x.power(false);
            c.due("behind a CUT", x.about(0, 1), minute);
            c.due("RIGHT behind a CUT", x.about(0, 2), 0);
            x.come(0, 1);
            c.due("behind a REFUSAL", x.about(0, 1), minute);
        }
        MilkBox y = Farm.withCows(1);
        Farm.milk(y, 0);
        c.due("ENDED in 2", y.about(0, 1), 0);
        y.come(0, 1);
        c.due("the latest", y.about(0, 1), 2);
    }

    private static void aboutPlace() {
        Check c = new Check("promise 6: its place in the QUEUE (4: 0, 1, ..; NONE)");
        MilkBox x = Farm.withCows(12);
        c.due("has not come", x.about(0, 4), NONE);
        for (int cow = 0; cow < 12; cow++) {
            x.come(cow, 1);
            c.due("place of " + cow, x.about(cow, 4), cow == 0 ? NONE : cow - 1);
        }
        x.pass(2);
        for (int cow = 0; cow < 12; cow++) {
            c.due("place then of " + cow, x.about(cow, 4), cow < 2 ? NONE : cow - 2);
        }
        x.power(false);
        c.due("the CUT one", x.about(1, 4), NONE);
        x.come(1, 1);
        c.due("it comes again", x.about(1, 4), 10);
    }

    private static void aboutReadings() {
        Check c = new Check("promise 6: its READINGS (6: how many)");
        MilkBox x = Farm.withCow(0, 1, 1440, 0);
        x.cow(0, 1, 0, 0);
        for (int count = 0; count <= 7; count++) {
            c.due("behind " + count, x.about(0, 6), count);
            x.come(0, 9);
            x.power(false);
        }
        c.due("another cow's", x.about(1, 6), 0);
    }

    // ---- promise 7

    private static void passMinutes() {
        Check c = new Check("promise 7: n minutes (1 .. 20000): THE CLOCK then");
        c.around("pass", n -> new MilkBox().pass(n), new int[][] {{LEAST, BAD}, {-20000, BAD}, {-1, BAD}, {0, BAD}, {1, 1},
            {2, 2}, {19999, 19999}, {20000, 20000}, {20001, BAD}, {20002, BAD}, {100000, BAD}, {MOST, BAD}});
        c.around("THE CLOCK behind pass", n -> {
            MilkBox x = Farm.at(5);
            x.pass(n);
            return x.total(6);
        }, new int[][] {{-1, 5}, {0, 5}, {1, 6}, {20000, 20005}, {20001, 5}});
        c.around("pass in 90000", n -> Farm.at(90000).pass(n), new int[][] {{0, BAD}, {1, 90001}, {9999, 99999},
            {10000, 100000}, {10001, FULL}, {20000, FULL}, {20001, BAD}, {MOST, BAD}});
    }

    private static void passMeanwhile() {
        Check c = new Check("promise 7: with all that happens meanwhile");
        // 12 without milk, 2 minutes each: the last one BEGINS in 22 and ENDS in 24.
        int[][] minutesEndedBox = {{1, 0, 0}, {2, 1, 1}, {3, 1, 1}, {22, 11, 11}, {23, 11, 11}, {24, 12, NONE}, {25, 12, NONE}};
        for (int[] one : minutesEndedBox) {
            MilkBox x = Farm.withCows(12);
            for (int cow = 0; cow < 12; cow++) {
                x.come(cow, 1);
            }
            x.pass(one[0]);
            int ended = 0;
            for (int visit = 0; visit < 12; visit++) {
                boolean has = x.visit(visit, 1, 6) != NONE;
                ended += has ? 1 : 0;
                c.due("ENDED of " + visit, x.visit(visit, 1, 6), has ? 2 * visit + 2 : NONE);
            }
            c.due("ENDED in " + one[0], ended, one[1]);
            c.due("box() in " + one[0], x.box(), one[2]);
            c.due("total(9) in " + one[0], x.total(9), Math.max(0, 11 - one[1]));
        }
        MilkBox y = Farm.withCows(12);
        y.power(false);
        for (int cow = 0; cow < 12; cow++) {
            y.come(cow, 1);
        }
        y.pass(20000);
        c.due("nothing without POWER", y.total(9), 12);
    }

    // ---- promises 8 to 12

    private static void comeState() {
        Check c = new Check("promise 8: STATE: it waits, or is in the BOX");
        MilkBox x = Farm.withCows(2);
        c.due("neither", x.come(0, 1), 0);
        c.due("in the BOX", x.come(0, 1), STATE);
        x.come(1, 1);
        c.due("it waits", x.come(1, 1), STATE);
        x.pass(1);
        c.due("in the BOX still", x.come(0, 1), STATE);
        c.due("it waits still", x.come(1, 1), STATE);
        x.pass(1);
        c.due("ENDED in this minute", x.come(0, 1), 2);
        c.due("BEGAN in this minute", x.come(1, 1), STATE);
        x.power(false);
        c.due("CUT in this minute", x.come(1, 1), 3);
        c.due("it waits on", x.come(0, 1), STATE);
        c.due("VISITS", x.total(8), 4);
    }

    private static void powerTells() {
        Check c = new Check("promise 9: THE POWER goes on or off: whether it was on: 1, 0");
        MilkBox x = Farm.having(100, 0);
        x.come(0, 1);
        x.pass(3);
        c.due("on, on", x.power(true), 1);
        c.due("box()", x.box(), 0);
        c.due("ends()", x.ends(), 207);
        c.due("on, off", x.power(false), 1);
        c.due("total(11)", x.total(11), 0);
        c.due("milked", x.visit(0, 2, 7), 20);
        x.pass(1);
        c.due("off, off", x.power(false), 0);
        c.due("ENDED as it was", x.visit(0, 2, 6), 203);
        c.due("milked as it was", x.total(4), 20);
        c.due("off, on", x.power(true), 0);
        c.due("total(11)", x.total(11), 1);
        c.due("box()", x.box(), NONE);
    }

    private static void box() {
        Check c = new Check("promise 10: The cow in the BOX; NONE");
        for (int cow : new int[] {0, 1, 10, 11}) {
            MilkBox x = Farm.withCows(12);
            c.due("box() ahead", x.box(), NONE);
            x.come(cow, 1);
            c.due("box()", x.box(), cow);
            x.pass(1);
            c.due("box() in the last minute but one", x.box(), cow);
            x.pass(1);
            c.due("box() behind", x.box(), NONE);
        }
    }

    private static void queuePlaces() {
        Check c = new Check("promise 11: The i-th cow of the QUEUE; NONE");
        for (int count : new int[] {0, 1, 2, 11, 12}) {
            MilkBox x = Farm.withCows(12);
            x.power(false);
            for (int i = 0; i < count; i++) {
                x.come(11 - i, 1);
            }
            for (int i : new int[] {LEAST, -12, -1, 0, 1, count - 2, count - 1, count, count + 1, 12, 500, MOST}) {
                c.due(count + " wait, queue(" + i + ")", x.queue(i), i >= 0 && i < count ? 11 - i : NONE);
            }
            x.power(true);
            for (int i : new int[] {0, 1, count - 3, count - 2, count - 1, count}) {
                c.due(count + " less the first, queue(" + i + ")", x.queue(i), i >= 0 && i < count - 1 ? 10 - i : NONE);
            }
        }
    }

    private static void ends() {
        Check c = new Check("promise 12: The minute in which the milking under way would END; NONE: there is none");
        MilkBox x = Farm.withCows(2);
        c.due("none has come", x.ends(), NONE);
        x.power(false);
        x.come(0, 1);
        c.due("one that waits", x.ends(), NONE);
        x.power(true);
        c.due("in the minute in which it BEGAN", x.ends(), 2);
        x.come(1, 1);
        x.pass(1);
        c.due("in the last minute but one", x.ends(), 2);
        x.pass(1);
        c.due("of the next one", x.ends(), 4);
        x.pass(2);
        c.due("behind the last one", x.ends(), NONE);
        x.come(0, 1);
        x.power(false);
        c.due("behind a CUT", x.ends(), NONE);
    }

    // ---- promises 13 to 15

    private static void roomBounds() {
        Check c = new Check("promise 13: THE TANK's ROOM (1 .. 100000): what it was");
        c.around("room", n -> new MilkBox().room(n), new int[][] {{LEAST, BAD}, {-1, BAD}, {0, BAD}, {1, 5000}, {2, 5000},
            {4999, 5000}, {5000, 5000}, {99999, 5000}, {100000, 5000}, {100001, BAD}, {MOST, BAD}});
        c.around("told behind room", n -> {
            MilkBox x = new MilkBox();
            x.room(n);
            return x.room(9);
        }, new int[][] {{-1, 5000}, {0, 5000}, {1, 1}, {2, 2}, {99999, 99999}, {100000, 100000}, {100001, 5000}});
    }

    private static void roomState() {
        Check c = new Check("promise 13: STATE: it has more in it");
        IntUnaryOperator roomWith50 = n -> {
            MilkBox x = Farm.having(50, 0);
            Farm.milk(x, 0);
            return x.room(n);
        };
        c.around("room with 50", roomWith50,
            new int[][] {{0, BAD}, {1, STATE}, {48, STATE}, {49, STATE}, {50, 5000}, {51, 5000}, {100000, 5000}});
        c.around("room with 50 behind pick", n -> {
            MilkBox x = Farm.having(50, 0);
            Farm.milk(x, 0);
            x.pick(n);
            return x.room(40);
        }, new int[][] {{1, STATE}, {9, STATE}, {10, 5000}, {11, 5000}, {100000, 5000}});
        MilkBox sick = Farm.withCow(2, 30, 0, 0);
        sick.pass(100);
        Farm.milk(sick, 0);
        c.due("the CAN is not in it", sick.room(1), 5000);
    }

    private static void pickBounds() {
        Check c = new Check("promise 14: So much is taken away of THE TANK (1 .. 100000)");
        IntUnaryOperator pickOf50 = n -> {
            MilkBox x = Farm.having(50, 0);
            Farm.milk(x, 0);
            return x.pick(n);
        };
        c.around("pick of 50", pickOf50, new int[][] {{LEAST, BAD}, {-1, BAD}, {0, BAD}, {1, 1}, {2, 2}, {99999, 50},
            {100000, 50}, {100001, BAD}, {MOST, BAD}});
        c.around("pick of none", n -> new MilkBox().pick(n),
            new int[][] {{-1, BAD}, {0, BAD}, {1, 0}, {2, 0}, {99999, 0}, {100000, 0}, {100001, BAD}});
    }

    private static void pickNoMore() {
        Check c = new Check("promise 14: no more than it has: how much");
        int[][] pickAndDue = {{48, 48}, {49, 49}, {50, 50}, {51, 50}, {52, 50}};
        for (int[] one : pickAndDue) {
            MilkBox x = Farm.having(50, 0);
            Farm.milk(x, 0);
            c.due("pick(" + one[0] + ")", x.pick(one[0]), one[1]);
            c.due("THE TANK behind " + one[0], x.total(0), 50 - one[1]);
            c.due("taken away behind " + one[0], x.total(3), one[1]);
            c.due("all that was milked behind " + one[0], x.total(4), 50);
            c.due("what is over behind " + one[0], x.pick(100000), 50 - one[1]);
            c.due("pick of none", x.pick(1), 0);
            c.due("taken away in all", x.total(3), 50);
        }
    }

    private static void totalWhats() {
        Check c = new Check("promise 15: total, what 0 .. 12");
        // 60 in THE TANK less 7, 45 in the CAN, 34 POURED; cow 0 comes without the RIGHT 3 times; cow 1 waits.
        IntUnaryOperator total = what -> {
            MilkBox x = Farm.withCow(0, 30, 60, 250);
            x.cow(2, 30, 60, 40);
            x.cow(1, 30, 60, 0);
            x.room(60);
            x.pass(120);
            Farm.milk(x, 0);
            x.trouble(1, 0, 9);
            Farm.milk(x, 1);
            x.trouble(2, 3, 9);
            x.trouble(2, 2, 9);
            Farm.milk(x, 2);
            x.pick(7);
            x.come(0, 1);
            x.come(0, 1);
            x.come(0, 1000);
            Farm.passTo(x, 190);
            x.power(false);
            x.come(1, 1);
            return x.total(what);
        };
        // Cow 1 HAS 62 in 125: 17, 15, 15, 15; cow 2 HAS 66 in 133: 18, 16, 16, 16.
        c.around("total", total, new int[][] {{LEAST, BAD}, {-2, BAD}, {-1, BAD}, {0, 53}, {1, 45}, {2, 34}, {3, 7},
            {4, 139}, {5, 290}, {6, 190}, {7, 3}, {8, 7}, {9, 1}, {10, 1}, {11, 0}, {12, 3}, {13, BAD}, {14, BAD},
            {MOST, BAD}});
    }

    private static void totalSums() {
        Check c = new Check("promise 15: 0 THE TANK, 1 the CAN, 2 POURED .. 4 all that was milked");
        // Each of 3 milkings gives 50; where they go, all of them are there behind the last.
        for (int where = 0; where <= 2; where++) {
            MilkBox x = Farm.withCow(where == 1 ? 2 : 0, 30, 0, 5000);
            x.room(where == 2 ? 49 : 5000);
            for (int count = 1; count <= 3; count++) {
                Farm.passTo(x, 100 * count);
                Farm.milk(x, 0);
                for (int what = 0; what <= 2; what++) {
                    c.due("total(" + what + ") behind " + count, x.total(what), what == where ? 50 * count : 0);
                }
                c.due("total(4) behind " + count, x.total(4), 50 * count);
                c.due("total(5) behind " + count, x.total(5), 500 * count);
                c.due("about(0, 5) behind " + count, x.about(0, 5), 50 * count);
            }
            c.due("pick(100000)", x.pick(100000), where == 0 ? 150 : 0);
            c.due("total(4) behind it", x.total(4), 150);
        }
    }

    // ---- promise 16

    // VISITS: 0 a MILKING, 1 a REFUSAL, 2 a CUT, 3 a MILKING that waits.
    private static MilkBox with4Visits() {
        MilkBox x = Farm.withCow(0, 30, 100, 5000);
        x.cow(0, 30, 0, 5000);
        x.pass(80);
        x.come(0, 11);
        x.pass(10);
        x.come(0, 12);
        x.come(1, 13);
        x.pass(3);
        x.power(false);
        x.come(1, 14);
        return x;
    }

    private static void visitNumbers() {
        Check c = new Check("promise 16: UNKNOWN (there is no such VISIT)");
        c.around("READING of VISIT", visit -> with4Visits().visit(visit, 3, 3), new int[][] {{LEAST, UNKNOWN},
            {-2, UNKNOWN}, {-1, UNKNOWN}, {0, 11}, {1, 12}, {2, 13}, {3, 14}, {4, UNKNOWN}, {5, UNKNOWN}, {499, UNKNOWN},
            {500, UNKNOWN}, {MOST, UNKNOWN}});
    }

    private static void visitKinds() {
        Check c = new Check("promise 16: taken as of a KIND (0 REFUSAL, 1: MILKING, CUT; 2; 3: any)");
        c.around("a MILKING as", kind -> with4Visits().visit(0, kind, 0),
            new int[][] {{LEAST, BAD}, {-1, BAD}, {0, CAST}, {1, 1}, {2, CAST}, {3, 1}, {4, BAD}, {MOST, BAD}});
        c.around("a REFUSAL as", kind -> with4Visits().visit(1, kind, 0),
            new int[][] {{LEAST, BAD}, {-1, BAD}, {0, 0}, {1, CAST}, {2, CAST}, {3, 0}, {4, BAD}, {MOST, BAD}});
        c.around("a CUT as", kind -> with4Visits().visit(2, kind, 0),
            new int[][] {{LEAST, BAD}, {-1, BAD}, {0, CAST}, {1, 2}, {2, 2}, {3, 2}, {4, BAD}, {MOST, BAD}});
        c.around("one that waits as", kind -> with4Visits().visit(3, kind, 0),
            new int[][] {{LEAST, BAD}, {-1, BAD}, {0, CAST}, {1, 1}, {2, CAST}, {3, 1}, {4, BAD}, {MOST, BAD}});
    }

    private static void visitWhats() {
        Check c = new Check("promise 16: what 0 .. 10");
        int[][] parts = {{1, 0, 80, 11, 0, 80, 84, 40, 0, 0, 400},
            {0, 0, 90, 12, 0, NONE, NONE, NONE, NONE, NONE, NONE},
            {2, 1, 90, 13, 0, 90, 93, 20, 0, 0, 200},
            {1, 1, 93, 14, 0, NONE, NONE, NONE, NONE, NONE, NONE}};
        MilkBox x = with4Visits();
        for (int visit = 0; visit < 4; visit++) {
            for (int what = 0; what <= 10; what++) {
                c.due("visit(" + visit + ", 3, " + what + ")", x.visit(visit, 3, what), parts[visit][what]);
                int own = parts[visit][0];
                c.due("visit(" + visit + ", " + own + ", " + what + ")", x.visit(visit, own, what), parts[visit][what]);
            }
            for (int what : new int[] {LEAST, -2, -1, 11, 12, MOST}) {
                c.due("visit(" + visit + ", 3, " + what + ")", x.visit(visit, 3, what), BAD);
            }
        }
    }

    private static void visitMilkings() {
        Check c = new Check("promise 16: of MILKINGS .. NONE: not yet, or of none such");
        // Minute 0 and nothing milked are told as 0, not as NONE.
        MilkBox x = Farm.withCow(0, 1, 1440, 0);
        x.power(false);
        x.come(0, 0);
        for (int what = 5; what <= 10; what++) {
            c.due("it waits, what " + what, x.visit(0, 1, what), NONE);
        }
        x.power(true);
        int[] underWay = {0, NONE, NONE, NONE, 0, NONE};
        for (int what = 5; what <= 10; what++) {
            c.due("under way, what " + what, x.visit(0, 1, what), underWay[what - 5]);
        }
        x.power(false);
        x.come(0, 0);
        for (int what = 0; what <= 10; what++) {
            c.due("CUT in minute 0, what " + what, x.visit(0, 2, what), what == 0 ? 2 : 0);
            c.due("REFUSED in minute 0, what " + what, x.visit(1, 0, what), what < 5 ? 0 : NONE);
        }
    }

    private static void visitWhereItWent() {
        Check c = new Check("promise 16: where it went (8: 0 THE TANK, 1 the CAN, 2 POURED)");
        // What is told stays so, whatever is told of the cow and THE TANK behind it.
        int[][] roomWithheldWent = {{50, 0, 0}, {49, 0, 2}, {50, 200000, 1}, {49, 200000, 1}};
        for (int[] one : roomWithheldWent) {
            MilkBox x = Farm.having(50, 0);
            x.room(one[0]);
            x.withhold(0, one[1]);
            Farm.milk(x, 0);
            c.due("ROOM " + one[0] + ", WITHHELD to " + one[1], x.visit(0, 1, 8), one[2]);
            x.withhold(0, 200000 - one[1]);
            x.room(100000);
            c.due("behind that", x.visit(0, 1, 8), one[2]);
            c.due("so much there", x.total(one[2]), 50);
        }
    }

    // ---- promises 17 to 21

    private static void visitOfPlaces() {
        Check c = new Check("promise 17: The i-th VISIT of a cow; NONE");
        c.around("visitOf(0, i), i", i -> with4Visits().visitOf(0, i), new int[][] {{LEAST, NONE}, {-9, NONE}, {-1, NONE},
            {0, 0}, {1, 1}, {2, NONE}, {3, NONE}, {500, NONE}, {MOST, NONE}});
        c.around("visitOf(1, i), i", i -> with4Visits().visitOf(1, i), new int[][] {{LEAST, NONE}, {-9, NONE}, {-1, NONE},
            {0, 2}, {1, 3}, {2, NONE}, {3, NONE}, {500, NONE}, {MOST, NONE}});
        MilkBox x = Farm.withVisits(500);
        c.due("visitOf(0, 499)", x.visitOf(0, 499), 499);
        c.due("visitOf(0, 500)", x.visitOf(0, 500), NONE);
        c.due("visitOf(0, 498)", x.visitOf(0, 498), 498);
        c.due("visitOf(1, 0)", x.visitOf(1, 0), UNKNOWN);
    }

    private static void gaveDays() {
        Check c = new Check("promise 18: BAD: below 0");
        c.around("gave on DAY", day -> {
            MilkBox x = Farm.having(50, 0);
            Farm.milk(x, 0);
            return x.gave(0, day);
        }, new int[][] {{LEAST, BAD}, {-2, BAD}, {-1, BAD}, {0, 50}, {1, 0}, {2, 0}, {69, 0}, {70, 0}, {MOST, 0}});
        c.due("has not come", Farm.withCows(1).gave(0, 0), 0);
    }

    private static void gaveByEnded() {
        Check c = new Check("promise 18: on a DAY (by the minute in which it ENDED)");
        // It comes and BEGINS on DAY 0 with 400, and ENDS 22 minutes behind.
        int[][] cameDay0Day1 = {{1416, 400, 0}, {1417, 400, 0}, {1418, 0, 400}, {1419, 0, 400}, {1439, 0, 400}};
        for (int[] one : cameDay0Day1) {
            MilkBox x = Farm.withCow(0, 30, 0, 0);
            x.cow(0, 30, 0, 0);
            x.pass(one[0]);
            x.come(0, 1);
            x.pass(21);
            c.due("under way from " + one[0] + ", DAY 0", x.gave(0, 0), 0);
            c.due("under way from " + one[0] + ", DAY 1", x.gave(0, 1), 0);
            x.pass(1);
            c.due("from " + one[0] + ", DAY 0", x.gave(0, 0), one[1]);
            c.due("from " + one[0] + ", DAY 1", x.gave(0, 1), one[2]);
            c.due("another cow", x.gave(1, 0) + x.gave(1, 1), 0);
        }
        // Several of one DAY, the last one CUT in 1439 or 1440.
        for (int cut = 1439; cut <= 1440; cut++) {
            MilkBox x = Farm.having(50, 0);
            Farm.milk(x, 0);
            Farm.passTo(x, 200);
            Farm.milk(x, 0);
            Farm.passTo(x, cut - 4);
            x.come(0, 1);
            x.pass(4);
            x.power(false);
            c.due("CUT in " + cut + ", DAY 0", x.gave(0, 0), cut == 1439 ? 140 : 100);
            c.due("CUT in " + cut + ", DAY 1", x.gave(0, 1), cut == 1439 ? 0 : 40);
        }
    }

    private static void longestOfNone() {
        Check c = new Check("promise 19: (0: none did)");
        MilkBox x = Farm.withCow(0, 1, 1440, 0);
        c.due("none has come", x.longest(), 0);
        x.power(false);
        x.come(0, 1);
        x.pass(100);
        c.due("none BEGAN", x.longest(), 0);
        MilkBox y = Farm.withCow(0, 1, 1440, 0);
        y.come(0, 1);
        y.pass(100);
        y.come(0, 1);
        y.pass(100);
        c.due("one at once and a REFUSAL", y.longest(), 0);
    }

    private static void longestThatBegan() {
        Check c = new Check("promise 19: The longest that a VISIT waited in the QUEUE that BEGAN");
        // The first waits for 10 minutes, the second for so many, to the minute in which it BEGAN.
        c.around("longest() of 10 and", minutes -> {
            MilkBox x = Farm.withCows(2);
            x.power(false);
            x.come(0, 1);
            x.pass(10);
            x.power(true);
            x.pass(2);
            x.power(false);
            x.come(1, 1);
            Farm.passTo(x, 12 + minutes);
            x.power(true);
            x.pass(20);
            return x.longest();
        }, new int[][] {{0, 10}, {1, 10}, {9, 10}, {10, 10}, {11, 11}, {12, 12}, {20000, 20000}});
        MilkBox y = Farm.withCows(1);
        y.power(false);
        y.come(0, 1);
        Farm.passTo(y, 100000);
        y.power(true);
        c.due("from 0 to 100000", y.longest(), 100000);
    }

    private static void rankPlaces() {
        Check c = new Check("promise 20: the i-th; NONE");
        for (int count : new int[] {0, 1, 2, 11, 12}) {
            MilkBox x = Farm.withCows(count);
            for (int i : new int[] {LEAST, -9, -1, 0, 1, count - 1, count, count + 1, 12, 13, MOST}) {
                c.due(count + " cows, rank(" + i + ")", x.rank(i), i >= 0 && i < count ? i : NONE);
            }
        }
    }

    private static void rankOfLikeOnes() {
        Check c = new Check("promise 20: the most first, of like ones the lesser");
        // Cow 0 gives 50, cow 1 in 105 one less, as much, or one more; cow 2 nothing.
        int[][] thereAndRanks = {{7, 0, 1, 2}, {6, 0, 1, 2}, {5, 0, 1, 2}, {4, 0, 1, 2}, {3, 1, 0, 2}, {2, 1, 0, 2}};
        for (int[] one : thereAndRanks) {
            MilkBox x = Farm.withCow(0, 30, 0, 0);
            Farm.passTo(x, one[0]);
            x.cow(0, 30, 0, 0);
            x.cow(0, 30, 0, 0);
            Farm.passTo(x, 100);
            Farm.milk(x, 0);
            Farm.milk(x, 1);
            c.due("milked of cow 1", x.about(1, 5), (105 - one[0]) / 2);
            for (int i = 0; i < 3; i++) {
                c.due("cow 1 there in " + one[0] + ", rank(" + i + ")", x.rank(i), one[1 + i]);
            }
        }
        // By what was milked in all, not by the latest, not by what it HAS.
        MilkBox y = Farm.withCow(0, 30, 0, 0);
        y.cow(0, 30, 0, 0);
        y.pass(100);
        Farm.milk(y, 1);
        Farm.milk(y, 0);
        c.due("50 and 52, rank(0)", y.rank(0), 0);
        Farm.passTo(y, 160);
        Farm.milk(y, 1);
        c.due("80 of two and 52, rank(0)", y.rank(0), 1);
        Farm.passTo(y, 300);
        c.due("what it HAS, rank(0)", y.rank(0), 1);
    }

    private static void untilBounds() {
        Check c = new Check("promise 21: so much (1 .. 400)");
        c.around("until of RATE 30", milk -> Farm.withCow(0, 30, 0, 0).until(0, milk), new int[][] {{LEAST, BAD}, {-1, BAD},
            {0, BAD}, {1, 2}, {2, 4}, {399, 798}, {400, 800}, {401, BAD}, {402, BAD}, {MOST, BAD}});
        c.around("until of RATE 1", milk -> Farm.withCow(0, 1, 0, 0).until(0, milk),
            new int[][] {{0, BAD}, {1, 60}, {2, 120}, {399, 23940}, {400, 24000}, {401, BAD}});
    }

    private static void untilLeast() {
        Check c = new Check("promise 21: The least number of minutes from now after which; 0: it does");
        for (int rate : new int[] {1, 7, 13, 29, 30}) {
            for (int milk : new int[] {1, 2, 59, 60, 61, 200, 399, 400}) {
                MilkBox x = Farm.withCow(0, rate, 0, 0);
                String what = "RATE " + rate + ", " + milk;
                int minutes = x.until(0, milk);
                Farm.passTo(x, minutes - 1);
                c.due(what + ", HAS one minute ahead", x.about(0, 0), milk - 1);
                c.due(what + ", until one minute ahead", x.until(0, milk), 1);
                x.pass(1);
                c.due(what + ", HAS", x.about(0, 0), milk);
                c.due(what + ", until", x.until(0, milk), 0);
                x.pass(1000);
                c.due(what + ", until behind", x.until(0, milk), 0);
            }
        }
        // 100 were LEFT of a milking that BEGAN in 800; from 820 on it HAS 110.
        c.around("until with 100 LEFT", milk -> {
            MilkBox x = Farm.having(400, 0);
            x.trouble(0, 1, 4);
            Farm.milk(x, 0);
            return x.until(0, milk);
        }, new int[][] {{1, 0}, {99, 0}, {100, 0}, {109, 0}, {110, 0}, {111, 2}, {112, 4}, {399, 578}, {400, 580}});
        c.around("until in 100000", milk -> {
            MilkBox x = Farm.at(99999);
            x.cow(0, 30, 0, 0);
            x.pass(1);
            return x.until(0, milk);
        }, new int[][] {{1, 1}, {2, 3}, {400, 799}});
    }

    private static void untilInTheBox() {
        Check c = new Check("promise 21: NONE: it is in the BOX");
        MilkBox x = Farm.having(30, 0);
        x.cow(0, 30, 0, 0);
        x.power(false);
        x.come(0, 1);
        c.due("it waits", x.until(0, 31), 2);
        x.power(true);
        c.due("in the BOX", x.until(0, 1), NONE);
        c.due("in the BOX", x.until(0, 400), NONE);
        c.due("another cow", x.until(1, 1), 2);
        x.pass(3);
        c.due("in the BOX in the last minute but one", x.until(0, 1), NONE);
        x.pass(1);
        c.due("behind it", x.until(0, 1), 0);
        c.due("behind it", x.until(0, 3), 2);
        x.come(0, 1);
        c.due("in the BOX again", x.until(0, 1), NONE);
        x.power(false);
        c.due("CUT", x.until(0, 3), 2);
    }
}
