/** Each promise of the document: ordinary inputs, the edges that it names, wrong inputs. */
public final class PromiseTest {
    private static final int UNKNOWN = -1, BAD = -2, STATE = -3, FULL = -4, NONE = -9, CAST = -13;
    private static final int LEAST = Integer.MIN_VALUE, MOST = Integer.MAX_VALUE;

    public static void main(String[] args) {
        constants();
        newObject();
        cow();
        cowFull();
        taken();
        withhold();
        withholdOfSick();
        withholdWhileMilked();
        trouble();
        troubleToldInTheBox();
        troubleTimes();
        aboutMilk();
        aboutRight();
        aboutFeed();
        aboutPlaceAndSums();
        pass();
        passSeveral();
        come();
        comeRefused();
        comeFull();
        alarm();
        alarmOfFewReadings();
        power();
        powerOffInTheLastMinute();
        powerKeepsTheQueue();
        box();
        queue();
        queueOfTwelve();
        shyOnesGoAhead();
        ends();
        teats();
        room();
        pick();
        poured();
        total();
        visitKinds();
        visitParts();
        visitUnderWay();
        visitOf();
        gave();
        longest();
        rank();
        until();
        untilWithLeft();
        Check.close();
    }

    private static void constants() {
        Check c = new Check("constants");
        c.due("UNKNOWN", MilkBox.UNKNOWN, UNKNOWN);
        c.due("BAD", MilkBox.BAD, BAD);
        c.due("STATE", MilkBox.STATE, STATE);
        c.due("FULL", MilkBox.FULL, FULL);
        c.due("NONE", MilkBox.NONE, NONE);
        c.due("CAST", MilkBox.CAST, CAST);
    }

    private static void newObject() {
        Check c = new Check("promise 1");
        MilkBox x = new MilkBox();
        for (int what = 0; what <= 12; what++) {
            c.due("total(" + what + ")", x.total(what), what == 11 ? 1 : 0);
        }
        c.due("box()", x.box(), NONE);
        c.due("queue(0)", x.queue(0), NONE);
        c.due("ends()", x.ends(), NONE);
        c.due("longest()", x.longest(), 0);
        c.due("rank(0)", x.rank(0), NONE);
        c.due("taken(0, 0, 0)", x.taken(0, 0, 0), UNKNOWN);
        c.due("visit(0, 3, 0)", x.visit(0, 3, 0), UNKNOWN);
        c.due("room(100)", x.room(100), 5000);
        MilkBox other = new MilkBox();
        x.cow(0, 1, 0, 0);
        c.due("another's total(7)", other.total(7), 0);
        c.due("another's room(1)", other.room(1), 5000);
    }

    private static void cow() {
        Check c = new Check("promise 2");
        MilkBox x = new MilkBox();
        int[][] bad = {{-1, 1, 0, 0}, {3, 1, 0, 0}, {0, 0, 0, 0}, {0, 31, 0, 0}, {0, -1, 0, 0},
            {0, 1, -1, 0}, {0, 1, 1441, 0}, {0, 1, 0, -1}, {0, 1, 0, 5001},
            {MOST, 1, 0, 0}, {0, MOST, 0, 0}, {0, 1, MOST, 0}, {0, 1, 0, MOST},
            {LEAST, 1, 0, 0}, {0, LEAST, 0, 0}, {0, 1, LEAST, 0}, {0, 1, 0, LEAST}};
        for (int[] b : bad) {
            c.due("a bad cow", x.cow(b[0], b[1], b[2], b[3]), BAD);
        }
        c.due("total(7)", x.total(7), 0);
        c.due("cow(0, 1, 0, 0)", x.cow(0, 1, 0, 0), 0);
        c.due("cow(2, 30, 1440, 5000)", x.cow(2, 30, 1440, 5000), 1);
        c.due("pass(100)", x.pass(100), 100);
        c.due("cow(1, 6, 3, 4)", x.cow(1, 6, 3, 4), 2);
        c.due("total(7)", x.total(7), 3);
        c.due("about(2, 0) at once", x.about(2, 0), 0);
        c.due("pass(100)", x.pass(100), 200);
        c.due("about(2, 0)", x.about(2, 0), 10);
        c.due("about(0, 0)", x.about(0, 0), 3);
        c.due("about(2, 1)", x.about(2, 1), NONE);
        c.due("about(2, 2)", x.about(2, 2), 1);
    }

    private static void cowFull() {
        Check c = new Check("promise 2, full");
        MilkBox x = new MilkBox();
        for (int i = 0; i < 12; i++) {
            c.due("cow", x.cow(i % 3, 1, i, i), i);
        }
        c.due("a 13th", x.cow(0, 1, 0, 0), FULL);
        c.due("a bad 13th", x.cow(0, 31, 0, 0), BAD);
        c.due("total(7)", x.total(7), 12);
        c.due("taken(11, 0, 2)", x.taken(11, 0, 2), 11);
        c.due("taken(12, 0, 2)", x.taken(12, 0, 2), UNKNOWN);
        for (int i = 0; i < 12; i++) {
            c.due("come", x.come(11 - i, 5), i);
        }
        c.due("total(9)", x.total(9), 11);
        c.due("queue(10)", x.queue(10), 0);
        c.due("queue(11)", x.queue(11), NONE);
        c.due("pass(24)", x.pass(24), 24);
        c.due("box()", x.box(), NONE);
        c.due("visit(11, 1, 5)", x.visit(11, 1, 5), 22);
    }

    private static void taken() {
        Check c = new Check("promise 3");
        MilkBox x = new MilkBox();
        x.cow(0, 7, 11, 13);
        x.cow(1, 8, 12, 14);
        x.cow(2, 9, 15, 16);
        int[][] parts = {{0, 7, 11, 13}, {1, 8, 12, 14}, {2, 9, 15, 16}};
        for (int cow = 0; cow < 3; cow++) {
            for (int what = 0; what < 4; what++) {
                c.due("any", x.taken(cow, 0, what), parts[cow][what]);
                c.due("SHY", x.taken(cow, 1, what), cow == 1 ? parts[1][what] : CAST);
                c.due("SICK", x.taken(cow, 2, what), cow == 2 ? parts[2][what] : CAST);
            }
        }
        c.due("taken(3, 9, 9)", x.taken(3, 9, 9), UNKNOWN);
        c.due("taken(-1, 0, 0)", x.taken(-1, 0, 0), UNKNOWN);
        c.due("taken(MOST, 0, 0)", x.taken(MOST, 0, 0), UNKNOWN);
        c.due("taken(LEAST, 0, 0)", x.taken(LEAST, 0, 0), UNKNOWN);
        c.due("taken(0, 3, 0)", x.taken(0, 3, 0), BAD);
        c.due("taken(0, -1, 0)", x.taken(0, -1, 0), BAD);
        c.due("taken(0, 0, 4)", x.taken(0, 0, 4), BAD);
        c.due("taken(0, 0, -1)", x.taken(0, 0, -1), BAD);
        c.due("taken(0, 1, 4): BAD ahead of CAST", x.taken(0, 1, 4), BAD);
    }

    private static void withhold() {
        Check c = new Check("promise 4");
        MilkBox x = Farm.withCow(0, 6, 0, 0);
        c.due("withhold(1, -1)", x.withhold(1, -1), UNKNOWN);
        c.due("withhold(-1, 0)", x.withhold(-1, 0), UNKNOWN);
        c.due("withhold(0, -1)", x.withhold(0, -1), BAD);
        c.due("withhold(0, 200001)", x.withhold(0, 200001), BAD);
        c.due("withhold(0, 200000)", x.withhold(0, 200000), 0);
        c.due("withhold(0, 603)", x.withhold(0, 603), 200000);
        // Every 400 minutes 40 are milked in 4 minutes.
        x.pass(400);
        x.come(0, 1);
        x.pass(4);
        c.due("visit(0, 1, 8)", x.visit(0, 1, 8), 1);
        c.due("total(1)", x.total(1), 40);
        c.due("withhold(0, 0)", x.withhold(0, 0), 603);
        c.due("withhold(0, 803)", x.withhold(0, 803), 0);
        x.pass(396);
        x.come(0, 1);
        c.due("ends()", x.ends(), 804);
        x.pass(4);
        c.due("visit(1, 1, 8)", x.visit(1, 1, 8), 0);
        c.due("total(0)", x.total(0), 40);
        c.due("withhold(0, 1204)", x.withhold(0, 1204), 803);
        x.pass(396);
        x.come(0, 1);
        x.pass(4);
        c.due("ended in 1204", x.visit(2, 1, 6), 1204);
        c.due("a minute that is not above that one", x.visit(2, 1, 8), 0);
        c.due("withhold(0, 1605)", x.withhold(0, 1605), 1204);
        x.pass(396);
        x.come(0, 1);
        x.pass(4);
        c.due("ended in 1604", x.visit(3, 1, 6), 1604);
        c.due("a minute above that one", x.visit(3, 1, 8), 1);
        c.due("withhold(0, 5)", x.withhold(0, 5), 1605);
    }

    private static void withholdOfSick() {
        Check c = new Check("promise 4, SICK");
        MilkBox x = Farm.withCow(2, 30, 0, 0);
        x.room(1);
        c.due("withhold(0, 7)", x.withhold(0, 7), 0);
        c.due("withhold(0, 0)", x.withhold(0, 0), 7);
        x.pass(100);
        x.come(0, 1);
        x.pass(10);
        c.due("visit(0, 1, 8)", x.visit(0, 1, 8), 1);
        c.due("total(0)", x.total(0), 0);
        c.due("total(1)", x.total(1), 50);
        c.due("total(2)", x.total(2), 0);
        c.due("total(4)", x.total(4), 50);
    }

    private static void withholdWhileMilked() {
        Check c = new Check("promise 4, told in the BOX");
        MilkBox x = Farm.withCow(0, 30, 0, 0);
        x.pass(100);
        x.come(0, 1);
        c.due("withhold(0, 200000)", x.withhold(0, 200000), 0);
        x.pass(10);
        c.due("visit(0, 1, 8)", x.visit(0, 1, 8), 1);
        x.come(0, 1);
        c.due("withhold(0, 0)", x.withhold(0, 0), 200000);
        x.pass(10);
        c.due("visit(1, 1, 8)", x.visit(1, 1, 8), 0);
    }

    private static void trouble() {
        Check c = new Check("promise 5");
        MilkBox x = Farm.withCow(0, 6, 0, 0);
        c.due("trouble(1, 0, 0)", x.trouble(1, 0, 0), UNKNOWN);
        c.due("trouble(-1, 0, 0)", x.trouble(-1, 0, 0), UNKNOWN);
        c.due("trouble(0, 4, 0)", x.trouble(0, 4, 0), UNKNOWN);
        c.due("trouble(0, -1, 0)", x.trouble(0, -1, 0), UNKNOWN);
        c.due("trouble(0, MOST, 0)", x.trouble(0, MOST, 0), UNKNOWN);
        c.due("trouble(0, 4, 10): UNKNOWN ahead of BAD", x.trouble(0, 4, 10), UNKNOWN);
        c.due("trouble(0, 0, 10)", x.trouble(0, 0, 10), BAD);
        c.due("trouble(0, 0, -1)", x.trouble(0, 0, -1), BAD);
        c.due("trouble(0, 3, 9)", x.trouble(0, 3, 9), 0);
        c.due("trouble(0, 3, 1)", x.trouble(0, 3, 1), 9);
        c.due("trouble(0, 0, 2)", x.trouble(0, 0, 2), 0);
        c.due("trouble(0, 3, 0)", x.trouble(0, 3, 0), 1);
        c.due("trouble(0, 0, 2)", x.trouble(0, 0, 2), 2);
        c.due("trouble(0, 1, 0)", x.trouble(0, 1, 0), 0);
    }

    private static void troubleToldInTheBox() {
        Check c = new Check("promise 5, told in the BOX");
        MilkBox x = Farm.withCow(0, 6, 0, 0);
        x.trouble(0, 2, 3);
        x.pass(200);
        x.come(0, 1);
        c.due("ends()", x.ends(), 206);
        c.due("0 behind one that BEGAN", x.trouble(0, 2, 5), 0);
        c.due("ends() as it was", x.ends(), 206);
        x.pass(6);
        c.due("visit(0, 1, 9)", x.visit(0, 1, 9), 0);
        c.due("kept for the next", x.trouble(0, 2, 5), 5);
        x.pass(194);
        x.come(0, 1);
        c.due("visit(1, 1, 9)", x.visit(1, 1, 9), 1);
        x.power(false);
        c.due("0 behind a CUT", x.trouble(0, 2, 0), 0);
    }

    private static void troubleTimes() {
        Check c = new Check("promise 5, minutes");
        // 40 milk: 10 of each teat; a LOST one takes 3 minutes and gives nothing.
        int[][] troubles = {{0, 0, 0, 0}, {1, 0, 0, 0}, {0, 2, 0, 0}, {0, 0, 3, 0}, {0, 0, 0, 4},
            {9, 0, 0, 0}, {3, 3, 3, 3}, {4, 4, 4, 4}, {1, 2, 3, 4}, {9, 9, 0, 1}};
        int[] minutes = {4, 5, 6, 7, 7, 7, 16, 14, 13, 10};
        int[] milked = {40, 40, 40, 40, 30, 30, 40, 0, 30, 20};
        int[] lost = {0, 0, 0, 0, 1, 1, 0, 4, 1, 2};
        for (int i = 0; i < troubles.length; i++) {
            MilkBox x = Farm.withCow(0, 6, 0, 0);
            for (int teat = 0; teat < 4; teat++) {
                x.trouble(0, teat, troubles[i][teat]);
            }
            x.pass(400);
            x.come(0, 1);
            c.due("case " + i + " ends()", x.ends(), 400 + minutes[i]);
            x.pass(minutes[i] - 1);
            c.due("case " + i + " box() ahead", x.box(), 0);
            x.pass(1);
            c.due("case " + i + " box()", x.box(), NONE);
            c.due("case " + i + " milked", x.visit(0, 1, 7), milked[i]);
            c.due("case " + i + " LOST", x.visit(0, 1, 9), lost[i]);
            c.due("case " + i + " HAS", x.about(0, 0), 40 - milked[i] + minutes[i] / 10);
        }
    }

    private static void aboutMilk() {
        Check c = new Check("promise 6, milk");
        MilkBox x = Farm.withCow(0, 30, 0, 0);
        c.due("about(1, 0)", x.about(1, 0), UNKNOWN);
        c.due("about(-1, 0)", x.about(-1, 0), UNKNOWN);
        c.due("about(1, 7)", x.about(1, 7), UNKNOWN);
        c.due("about(0, 7)", x.about(0, 7), BAD);
        c.due("about(0, -1)", x.about(0, -1), BAD);
        x.pass(1);
        c.due("cut", x.about(0, 0), 0);
        x.pass(1);
        c.due("about(0, 0)", x.about(0, 0), 1);
        x.pass(797);
        c.due("about(0, 0) of 799 minutes", x.about(0, 0), 399);
        x.pass(1);
        c.due("about(0, 0) of 800 minutes", x.about(0, 0), 400);
        x.pass(1000);
        c.due("400 at most", x.about(0, 0), 400);
        x.trouble(0, 1, 9);
        x.come(0, 1);
        c.due("in the BOX", x.about(0, 0), 0);
        c.due("ends()", x.ends(), 1820);
        x.pass(10);
        c.due("in the BOX, since it BEGAN", x.about(0, 0), 5);
        x.pass(10);
        c.due("with what was LEFT", x.about(0, 0), 110);
        c.due("about(0, 1)", x.about(0, 1), 1800);
        x.come(0, 1);
        c.due("in the BOX, what was LEFT is 0", x.about(0, 0), 0);
        x.power(false);
        c.due("a CUT leaves it", x.about(0, 0), 110);
        x.pass(579);
        c.due("with what was LEFT, ahead of 400", x.about(0, 0), 399);
        x.pass(20000);
        c.due("with what was LEFT, 400 at most", x.about(0, 0), 400);
    }

    private static void aboutRight() {
        Check c = new Check("promise 6, RIGHT");
        MilkBox x = Farm.withCow(0, 6, 10, 0);
        x.cow(0, 6, 0, 0);
        c.due("never milked", x.about(0, 2), 1);
        c.due("about(0, 1)", x.about(0, 1), NONE);
        x.pass(5);
        x.come(0, 1);
        c.due("about(0, 1)", x.about(0, 1), 5);
        c.due("under way", x.about(0, 2), 0);
        x.pass(2);
        c.due("box()", x.box(), NONE);
        x.pass(7);
        c.due("9 minutes ago", x.about(0, 2), 0);
        x.pass(1);
        c.due("10 minutes ago", x.about(0, 2), 1);
        x.come(0, 1);
        x.power(false);
        c.due("a CUT BEGAN too", x.about(0, 1), 15);
        c.due("a CUT counts", x.about(0, 2), 0);
        x.come(0, 1);
        c.due("a REFUSAL is none that BEGAN", x.about(0, 1), 15);
        x.come(1, 1);
        c.due("one that waits did not begin", x.about(1, 1), NONE);
        c.due("one that waits has the RIGHT", x.about(1, 2), 1);
        x.pass(10);
        x.power(true);
        x.pass(5);
        c.due("BEGAN as THE POWER came", x.about(1, 1), 25);
        c.due("WAIT 0", x.about(1, 2), 1);
    }

    private static void aboutFeed() {
        Check c = new Check("promise 6, FEED");
        MilkBox x = Farm.withCow(0, 30, 0, 450);
        x.pass(40);
        x.come(0, 1);
        c.due("while under way", x.about(0, 3), 0);
        x.pass(3);
        c.due("20 milked", x.about(0, 3), 200);
        c.due("visit(0, 1, 10)", x.visit(0, 1, 10), 200);
        x.pass(37);
        x.come(0, 1);
        x.pass(3);
        c.due("20 more", x.about(0, 3), 400);
        x.pass(37);
        x.come(0, 1);
        x.pass(3);
        c.due("no more than FEED", x.about(0, 3), 450);
        c.due("visit(2, 1, 10)", x.visit(2, 1, 10), 50);
        x.pass(1313);
        x.come(0, 1);
        x.power(false);
        c.due("nothing left", x.visit(3, 2, 10), 0);
        x.power(true);
        c.due("total(6)", x.total(6), 1436);
        x.come(0, 1);
        c.due("ends()", x.ends(), 1458);
        x.pass(3);
        c.due("1439: the DAY is not over", x.about(0, 3), 450);
        x.pass(1);
        c.due("1440: a new DAY", x.about(0, 3), 0);
        x.pass(18);
        c.due("by the minute in which it ENDED", x.about(0, 3), 450);
        c.due("visit(4, 1, 10)", x.visit(4, 1, 10), 450);
        c.due("total(5)", x.total(5), 900);
        x.pass(1440);
        c.due("a later DAY", x.about(0, 3), 0);
    }

    private static void aboutPlaceAndSums() {
        Check c = new Check("promise 6, place and sums");
        MilkBox x = Farm.withCow(0, 6, 0, 0);
        x.cow(0, 6, 0, 0);
        x.cow(0, 6, 0, 0);
        x.pass(400);
        c.due("about(0, 4)", x.about(0, 4), NONE);
        x.come(2, 1);
        x.come(0, 1);
        x.come(1, 1);
        c.due("in the BOX", x.about(2, 4), NONE);
        c.due("first", x.about(0, 4), 0);
        c.due("second", x.about(1, 4), 1);
        x.pass(4);
        c.due("in the BOX", x.about(0, 4), NONE);
        c.due("moved on", x.about(1, 4), 0);
        c.due("milked", x.about(2, 5), 40);
        c.due("under way", x.about(0, 5), 0);
        x.pass(396);
        x.come(2, 1);
        x.pass(3);
        x.power(false);
        c.due("with a CUT", x.about(2, 5), 60);
        c.due("about(2, 6)", x.about(2, 6), 2);
        c.due("about(1, 6)", x.about(1, 6), 1);
    }

    private static void pass() {
        Check c = new Check("promise 7");
        MilkBox x = new MilkBox();
        c.due("pass(0)", x.pass(0), BAD);
        c.due("pass(-1)", x.pass(-1), BAD);
        c.due("pass(20001)", x.pass(20001), BAD);
        c.due("pass(MOST)", x.pass(MOST), BAD);
        c.due("pass(LEAST)", x.pass(LEAST), BAD);
        c.due("pass(1)", x.pass(1), 1);
        for (int i = 1; i <= 4; i++) {
            c.due("pass(20000)", x.pass(20000), 1 + i * 20000);
        }
        c.due("pass(20000)", x.pass(20000), FULL);
        c.due("pass(20001): BAD ahead of FULL", x.pass(20001), BAD);
        c.due("total(6)", x.total(6), 80001);
        c.due("pass(19999)", x.pass(19999), 100000);
        c.due("pass(1)", x.pass(1), FULL);
        c.due("total(6)", x.total(6), 100000);
    }

    private static void passSeveral() {
        Check c = new Check("promise 7, all that happens");
        MilkBox x = Farm.withCow(0, 6, 0, 100);
        x.cow(1, 12, 0, 100);
        x.cow(2, 30, 0, 100);
        x.pass(100);
        x.come(0, 1);
        x.come(1, 1);
        x.come(2, 1);
        c.due("pass(1000)", x.pass(1000), 1100);
        // 10 in 3 minutes, 20 in 3, 53 (of 106 minutes) in 5.
        int[][] parts = {{100, 103, 10, 0, 100}, {103, 106, 20, 0, 100}, {106, 111, 53, 1, 100}};
        for (int i = 0; i < 3; i++) {
            c.due("began", x.visit(i, 1, 5), parts[i][0]);
            c.due("ended", x.visit(i, 1, 6), parts[i][1]);
            c.due("milked", x.visit(i, 1, 7), parts[i][2]);
            c.due("went", x.visit(i, 1, 8), parts[i][3]);
            c.due("FEED", x.visit(i, 1, 10), parts[i][4]);
        }
        c.due("box()", x.box(), NONE);
        c.due("total(0)", x.total(0), 30);
        c.due("total(1)", x.total(1), 53);
        c.due("about(2, 0)", x.about(2, 0), 400);
        c.due("about(1, 0)", x.about(1, 0), 199);
    }

    private static void come() {
        Check c = new Check("promise 8");
        MilkBox x = Farm.withCow(0, 6, 0, 0);
        x.cow(0, 6, 0, 0);
        c.due("come(2, 0)", x.come(2, 0), UNKNOWN);
        c.due("come(-1, 0)", x.come(-1, 0), UNKNOWN);
        c.due("come(2, 1001)", x.come(2, 1001), UNKNOWN);
        c.due("come(0, 1001)", x.come(0, 1001), BAD);
        c.due("come(0, -1)", x.come(0, -1), BAD);
        c.due("total(8)", x.total(8), 0);
        c.due("about(0, 6)", x.about(0, 6), 0);
        c.due("come(0, 0)", x.come(0, 0), 0);
        c.due("come(1, 1000)", x.come(1, 1000), 1);
        c.due("in the BOX", x.come(0, 5), STATE);
        c.due("waits", x.come(1, 5), STATE);
        c.due("BAD ahead of STATE", x.come(0, 1001), BAD);
        c.due("total(8)", x.total(8), 2);
        c.due("about(0, 6)", x.about(0, 6), 1);
        c.due("about(1, 6)", x.about(1, 6), 1);
        x.pass(2);
        c.due("come(0, 7)", x.come(0, 7), 2);
        c.due("box()", x.box(), 1);
        c.due("queue(0)", x.queue(0), 0);
        c.due("visit(2, 3, 3)", x.visit(2, 3, 3), 7);
        c.due("visit(2, 3, 2)", x.visit(2, 3, 2), 2);
    }

    private static void comeRefused() {
        Check c = new Check("promise 8, REFUSED");
        MilkBox x = Farm.withCow(0, 6, 1440, 0);
        x.come(0, 1);
        x.pass(1439);
        c.due("come(0, 2)", x.come(0, 2), 1);
        c.due("visit(1, 3, 0)", x.visit(1, 3, 0), 0);
        c.due("box()", x.box(), NONE);
        c.due("queue(0)", x.queue(0), NONE);
        c.due("total(12)", x.total(12), 1);
        c.due("total(9)", x.total(9), 0);
        c.due("about(0, 6)", x.about(0, 6), 2);
        c.due("again", x.come(0, 2), 2);
        c.due("total(12)", x.total(12), 2);
        x.pass(1);
        c.due("come(0, 3)", x.come(0, 3), 3);
        c.due("visit(3, 3, 0)", x.visit(3, 3, 0), 1);
        c.due("box()", x.box(), 0);
        c.due("total(12)", x.total(12), 2);
    }

    private static void comeFull() {
        Check c = new Check("promise 8, FULL");
        MilkBox x = Farm.withCow(0, 6, 1440, 0);
        x.come(0, 1);
        x.pass(2);
        for (int i = 1; i < 500; i++) {
            c.due("come", x.come(0, i), i);
        }
        c.due("the 501st", x.come(0, 1), FULL);
        c.due("BAD ahead of FULL", x.come(0, 1001), BAD);
        c.due("total(8)", x.total(8), 500);
        c.due("total(12)", x.total(12), 499);
        c.due("about(0, 6)", x.about(0, 6), 500);
        c.due("visitOf(0, 499)", x.visitOf(0, 499), 499);
        c.due("visit(499, 0, 3)", x.visit(499, 0, 3), 499);
        c.due("visit(500, 3, 0)", x.visit(500, 3, 0), UNKNOWN);

        MilkBox y = Farm.withCow(0, 6, 1440, 0);
        y.come(0, 1);
        y.pass(2);
        for (int i = 1; i < 499; i++) {
            y.come(0, i);
        }
        y.pass(1440);
        c.due("the last one", y.come(0, 1), 499);
        c.due("STATE ahead of FULL", y.come(0, 1), STATE);
    }

    private static void alarm() {
        Check c = new Check("promise 8, ALARM");
        MilkBox x = Farm.withCow(0, 6, 1440, 0);
        int[] readings = {1000, 10, 10, 10, 10, 10, 12, 13, 13, 14};
        // The 12 meets five 10s: 600 is not above 600. The 13 meets 52: 650 is above 624.
        // The next meets 55: 650 is not above 660. The 14 meets 58: 700 is above 696.
        int[] alarms = {0, 0, 0, 0, 0, 0, 0, 1, 0, 1};
        for (int i = 0; i < readings.length; i++) {
            x.come(0, readings[i]);
            x.pass(2);
            c.due("ALARM of " + i, x.visit(i, 3, 4), alarms[i]);
        }
        c.due("total(8)", x.total(8), 10);
        c.due("total(10)", x.total(10), 2);
    }

    private static void alarmOfFewReadings() {
        Check c = new Check("promise 8, ALARM by how many");
        int[][] readings = {
            {10, 10, 1000, 1000},
            {0, 0, 0, 0, 1},
            {0, 0, 1, 0},
            {100, 100, 100, 120},
            {100, 100, 100, 121},
            {100, 100, 100, 100, 121, 1},
            {100, 100, 100, 100, 120},
            {100, 100, 100, 100, 100, 120},
            {100, 100, 100, 100, 100, 121},
            {1000, 100, 100, 100, 100, 100, 121},
            {0, 100, 100, 100, 100, 100, 120},
            {1, 2, 3, 4, 5, 6, 7, 8},
            {1000, 1000, 1000, 1000, 1000, 1000},
            {500, 600, 700, 721},
            {500, 600, 700, 720}};
        int[] lastAlarms = {1, 1, 0, 0, 1, 0, 0, 0, 1, 1, 0, 1, 0, 1, 0};
        int[] allAlarms = {1, 1, 0, 0, 1, 1, 0, 0, 1, 1, 3, 5, 0, 1, 0};
        for (int i = 0; i < readings.length; i++) {
            MilkBox x = Farm.withCow(0, 6, 1440, 0);
            x.cow(0, 6, 1440, 0);
            x.come(1, 1000);
            x.come(0, readings[i][0]);
            x.pass(10);
            // Another cow's readings have no say in it.
            x.come(1, 0);
            x.come(1, 0);
            for (int k = 1; k < readings[i].length; k++) {
                x.come(0, readings[i][k]);
            }
            int last = x.visitOf(0, readings[i].length - 1);
            c.due("case " + i + ", REFUSED", x.visit(last, 0, 0), 0);
            c.due("case " + i + ", ALARM", x.visit(last, 0, 4), lastAlarms[i]);
            c.due("case " + i + ", all ALARMS", x.total(10), allAlarms[i]);
        }
    }

    private static void power() {
        Check c = new Check("promise 9");
        MilkBox x = Farm.withCow(0, 30, 0, 100);
        c.due("power(true)", x.power(true), 1);
        c.due("power(false)", x.power(false), 1);
        c.due("power(false)", x.power(false), 0);
        c.due("total(11)", x.total(11), 0);
        c.due("power(true)", x.power(true), 0);
        c.due("total(11)", x.total(11), 1);
        // 100 milk and 2 of TROUBLE: 2 + 2 + 5 minutes.
        int[] milked = {0, 0, 0, 0, 0, 20, 40, 60, 80};
        for (int minute = 0; minute < 9; minute++) {
            MilkBox y = Farm.withCow(0, 30, 0, 5000);
            y.trouble(0, 1, 2);
            y.pass(200);
            y.come(0, 1);
            if (minute > 0) {
                y.pass(minute);
            }
            c.due("power(true) stops nothing", y.power(true), 1);
            c.due("box()", y.box(), 0);
            y.power(false);
            c.due("box()", y.box(), NONE);
            c.due("ends()", y.ends(), NONE);
            c.due("KIND", y.visit(0, 1, 0), 2);
            c.due("ENDED", y.visit(0, 2, 6), 200 + minute);
            c.due("milked in minute " + minute, y.visit(0, 2, 7), milked[minute]);
            c.due("went", y.visit(0, 2, 8), 0);
            c.due("LOST", y.visit(0, 2, 9), 0);
            c.due("FEED", y.visit(0, 2, 10), 10 * milked[minute]);
            c.due("HAS", y.about(0, 0), 100 - milked[minute] + minute / 2);
            c.due("total(0)", y.total(0), milked[minute]);
            c.due("total(4)", y.total(4), milked[minute]);
        }
        // 52 of teats that are not LOST: 40 by the minute ahead of the last, though 68 are there.
        MilkBox z = Farm.withCow(0, 30, 0, 5000);
        z.trouble(0, 3, 4);
        z.pass(138);
        z.come(0, 1);
        c.due("ends()", z.ends(), 146);
        z.pass(7);
        z.power(false);
        c.due("milked", z.visit(0, 2, 7), 40);
        c.due("LOST", z.visit(0, 2, 9), 1);
        c.due("HAS", z.about(0, 0), 29 + 3);
    }

    private static void powerOffInTheLastMinute() {
        Check c = new Check("promise 9, the minute of the end");
        MilkBox x = Farm.withCow(0, 6, 0, 0);
        x.cow(0, 6, 0, 0);
        x.pass(400);
        x.come(0, 1);
        x.come(1, 1);
        x.pass(4);
        x.power(false);
        c.due("ENDED ahead of that", x.visit(0, 1, 0), 1);
        c.due("milked", x.visit(0, 1, 7), 40);
        c.due("the next one is CUT", x.visit(1, 2, 0), 2);
        c.due("milked", x.visit(1, 2, 7), 0);
        c.due("where nothing went", x.visit(1, 2, 8), 0);
        c.due("BEGAN", x.visit(1, 2, 5), 404);
        c.due("ENDED", x.visit(1, 2, 6), 404);
        c.due("HAS", x.about(1, 0), 40);
    }

    private static void powerKeepsTheQueue() {
        Check c = new Check("promise 9, the others wait on");
        MilkBox x = Farm.withCow(0, 6, 0, 0);
        x.cow(0, 6, 0, 0);
        x.cow(0, 6, 0, 0);
        x.come(0, 1);
        x.come(1, 1);
        x.power(false);
        c.due("box()", x.box(), NONE);
        c.due("queue(0)", x.queue(0), 1);
        c.due("the CUT one does not wait", x.queue(1), NONE);
        x.come(2, 1);
        x.pass(100);
        c.due("box()", x.box(), NONE);
        c.due("total(9)", x.total(9), 2);
        x.power(true);
        c.due("box()", x.box(), 1);
        c.due("visit(1, 1, 5)", x.visit(1, 1, 5), 100);
        c.due("queue(0)", x.queue(0), 2);
        c.due("ends()", x.ends(), 103);
    }

    private static void box() {
        Check c = new Check("promise 10");
        MilkBox x = Farm.withCow(0, 6, 0, 0);
        x.cow(0, 6, 0, 0);
        c.due("box()", x.box(), NONE);
        x.come(1, 1);
        c.due("box()", x.box(), 1);
        x.come(0, 1);
        c.due("box()", x.box(), 1);
        x.pass(1);
        c.due("box()", x.box(), 1);
        x.pass(1);
        c.due("the next in that minute", x.box(), 0);
        x.pass(2);
        c.due("box()", x.box(), NONE);
    }

    private static void queue() {
        Check c = new Check("promise 11");
        MilkBox x = Farm.withCow(0, 6, 0, 0);
        for (int i = 0; i < 4; i++) {
            x.cow(0, 6, 0, 0);
        }
        x.come(3, 1);
        x.come(1, 1);
        x.come(4, 1);
        x.come(0, 1);
        c.due("queue(0)", x.queue(0), 1);
        c.due("queue(1)", x.queue(1), 4);
        c.due("queue(2)", x.queue(2), 0);
        c.due("queue(3)", x.queue(3), NONE);
        c.due("queue(-1)", x.queue(-1), NONE);
        c.due("queue(12)", x.queue(12), NONE);
        c.due("queue(MOST)", x.queue(MOST), NONE);
        c.due("queue(LEAST)", x.queue(LEAST), NONE);
        x.pass(2);
        c.due("queue(0)", x.queue(0), 4);
        c.due("queue(1)", x.queue(1), 0);
        c.due("queue(2)", x.queue(2), NONE);
    }

    private static void queueOfTwelve() {
        Check c = new Check("promise 11, twelve wait");
        MilkBox x = new MilkBox();
        x.power(false);
        for (int i = 0; i < 12; i++) {
            x.cow(0, 1, 0, 0);
            x.come(i, 1);
        }
        c.due("total(9)", x.total(9), 12);
        c.due("queue(11)", x.queue(11), 11);
        c.due("queue(12)", x.queue(12), NONE);
        x.power(true);
        for (int i = 0; i < 12; i++) {
            c.due("box()", x.box(), i);
            c.due("about(11, 4)", x.about(11, 4), i == 11 ? NONE : 10 - i);
            x.pass(2);
        }
        c.due("box()", x.box(), NONE);
    }

    private static void shyOnesGoAhead() {
        Check c = new Check("promise 11, SHY ones");
        for (int minutes = 28; minutes <= 31; minutes++) {
            MilkBox x = Farm.withCow(0, 6, 0, 0);
            x.cow(2, 6, 0, 0);
            x.cow(1, 6, 0, 0);
            x.cow(1, 6, 0, 0);
            x.power(false);
            x.come(0, 1);
            x.come(1, 1);
            x.come(3, 1);
            x.pass(1);
            x.come(2, 1);
            x.pass(minutes - 1);
            x.power(true);
            boolean ahead = minutes >= 30;
            c.due("box() in " + minutes, x.box(), ahead ? 3 : 0);
            c.due("queue(0) in " + minutes, x.queue(0), ahead ? 0 : 1);
            c.due("queue(1) in " + minutes, x.queue(1), ahead ? 1 : 3);
            c.due("queue(2) in " + minutes, x.queue(2), 2);
            x.pass(20);
            c.due("all BEGAN in " + minutes, x.total(9), 0);
        }
        // Of the two SHY ones the first of the queue enters, then the other, then the cows.
        MilkBox y = Farm.withCow(0, 6, 0, 0);
        y.cow(1, 6, 0, 0);
        y.cow(1, 6, 0, 0);
        y.power(false);
        y.come(0, 1);
        y.come(2, 1);
        y.come(1, 1);
        y.pass(31);
        y.power(true);
        c.due("box()", y.box(), 2);
        y.pass(3);
        c.due("box()", y.box(), 1);
        y.pass(3);
        c.due("box()", y.box(), 0);
        // The first of the queue is SHY itself; when one has gone ahead the others are what they were.
        MilkBox w = Farm.withCow(1, 6, 0, 0);
        w.cow(0, 6, 0, 0);
        w.cow(0, 6, 0, 0);
        w.cow(1, 6, 0, 0);
        w.power(false);
        int[] coming = {0, 1, 2, 3};
        for (int cow : coming) {
            w.come(cow, 1);
        }
        w.pass(30);
        w.power(true);
        int[] entering = {0, 3, 1, 2};
        for (int cow : entering) {
            c.due("box()", w.box(), cow);
            w.pass(3);
        }
        // One that has waited for 29 minutes when the box is free is passed over, for 30 it is not.
        for (int come = 0; come <= 1; come++) {
            MilkBox z = Farm.withCow(0, 30, 0, 0);
            z.cow(0, 6, 0, 0);
            z.cow(1, 6, 0, 0);
            for (int teat = 0; teat < 4; teat++) {
                z.trouble(0, teat, 3);
            }
            z.pass(640);
            z.come(0, 1);
            c.due("ends()", z.ends(), 670);
            z.come(1, 1);
            if (come > 0) {
                z.pass(come);
            }
            z.come(2, 1);
            z.pass(30 - come);
            c.due("box() with " + (30 - come), z.box(), come == 0 ? 2 : 1);
        }
    }

    private static void ends() {
        Check c = new Check("promise 12");
        // Milk and minutes: 2, and one for each 20 that are begun.
        int[][] cases = {{9, 2}, {10, 3}, {200, 3}, {209, 3}, {210, 4}, {400, 4}, {410, 5}, {4000, 22}, {9999, 22}};
        for (int[] one : cases) {
            MilkBox x = Farm.withCow(0, 6, 0, 0);
            c.due("ends()", x.ends(), NONE);
            x.pass(one[0]);
            x.come(0, 1);
            c.due("ends() of " + one[0], x.ends(), one[0] + one[1]);
            x.pass(one[1] - 1);
            c.due("ends() of " + one[0], x.ends(), one[0] + one[1]);
            x.pass(1);
            c.due("ends() of " + one[0], x.ends(), NONE);
        }
        MilkBox last = new MilkBox();
        for (int i = 0; i < 5; i++) {
            last.pass(20000);
        }
        last.cow(0, 6, 0, 0);
        last.come(0, 1);
        c.due("above the last minute", last.ends(), 100002);
        c.due("pass(1)", last.pass(1), FULL);
        c.due("box()", last.box(), 0);
    }

    private static void teats() {
        Check c = new Check("a milking's teats");
        // 43 milk: 13, 10, 10, 10.
        for (int teat = 0; teat < 4; teat++) {
            MilkBox x = Farm.withCow(0, 6, 0, 0);
            x.trouble(0, teat, 4);
            x.pass(430);
            x.come(0, 1);
            x.pass(7);
            c.due("milked without teat " + teat, x.visit(0, 1, 7), teat == 0 ? 30 : 33);
            c.due("HAS without teat " + teat, x.about(0, 0), teat == 0 ? 13 : 10);
        }
        // 3 milk are all of the first one's.
        MilkBox y = Farm.withCow(0, 6, 0, 0);
        y.trouble(0, 0, 9);
        y.pass(30);
        y.come(0, 1);
        c.due("ends()", y.ends(), 35);
        y.pass(5);
        c.due("milked", y.visit(0, 1, 7), 0);
        c.due("HAS", y.about(0, 0), 3);
        // What was LEFT is milked in the next one, with what has grown.
        y.pass(15);
        y.come(0, 1);
        y.pass(5);
        c.due("milked", y.visit(1, 1, 7), 5);
        c.due("HAS", y.about(0, 0), 0);
    }

    private static void room() {
        Check c = new Check("promise 13");
        MilkBox x = Farm.withCow(0, 6, 0, 0);
        c.due("room(0)", x.room(0), BAD);
        c.due("room(-1)", x.room(-1), BAD);
        c.due("room(100001)", x.room(100001), BAD);
        c.due("room(100000)", x.room(100000), 5000);
        c.due("room(1)", x.room(1), 100000);
        c.due("room(40)", x.room(40), 1);
        x.pass(400);
        x.come(0, 1);
        x.pass(4);
        c.due("just room for all of it", x.total(0), 40);
        c.due("room(39)", x.room(39), STATE);
        c.due("room(0): BAD ahead of STATE", x.room(0), BAD);
        c.due("room(40)", x.room(40), 40);
        c.due("room(79)", x.room(79), 40);
        x.pass(396);
        x.come(0, 1);
        x.pass(4);
        c.due("no room for all of it", x.total(0), 40);
        c.due("POURED", x.total(2), 40);
        c.due("visit(1, 1, 8)", x.visit(1, 1, 8), 2);
        x.pass(6);
        c.due("HAS", x.about(0, 0), 1);
        x.come(0, 1);
        x.pass(3);
        c.due("a lesser one has room", x.total(0), 41);
    }

    private static void pick() {
        Check c = new Check("promise 14");
        MilkBox x = Farm.withCow(0, 6, 0, 0);
        c.due("pick(0)", x.pick(0), BAD);
        c.due("pick(-1)", x.pick(-1), BAD);
        c.due("pick(100001)", x.pick(100001), BAD);
        c.due("pick(100000) of none", x.pick(100000), 0);
        x.pass(400);
        x.come(0, 1);
        x.pass(4);
        c.due("pick(1)", x.pick(1), 1);
        c.due("total(0)", x.total(0), 39);
        c.due("total(3)", x.total(3), 1);
        c.due("pick(39)", x.pick(39), 39);
        c.due("pick(1)", x.pick(1), 0);
        c.due("total(3)", x.total(3), 40);
        c.due("total(4)", x.total(4), 40);
        c.due("room(1)", x.room(1), 5000);
        MilkBox y = Farm.withCow(2, 6, 0, 0);
        y.pass(400);
        y.come(0, 1);
        y.pass(4);
        c.due("none of the CAN", y.pick(1), 0);
        c.due("total(1)", y.total(1), 40);
    }

    private static void poured() {
        Check c = new Check("milk POURED");
        MilkBox x = Farm.withCow(0, 30, 0, 5000);
        x.room(19);
        x.pass(800);
        x.come(0, 1);
        x.pass(3);
        x.power(false);
        c.due("total(2)", x.total(2), 20);
        c.due("went", x.visit(0, 2, 8), 2);
        c.due("FEED all the same", x.visit(0, 2, 10), 200);
        c.due("milked all the same", x.about(0, 5), 20);
        c.due("total(0)", x.total(0), 0);
        x.power(true);
        x.withhold(0, 200000);
        x.come(0, 1);
        x.pass(30);
        c.due("total(1)", x.total(1), 381);
        c.due("total(2)", x.total(2), 20);
        c.due("total(4)", x.total(4), 401);
    }

    private static void total() {
        Check c = new Check("promise 15");
        MilkBox x = Farm.withCow(0, 30, 100, 5000);
        x.cow(2, 30, 100, 3);
        x.cow(1, 6, 0, 0);
        x.pass(80);
        for (int i = 0; i < 3; i++) {
            x.come(i, 10);
        }
        x.come(2, 10);
        x.pass(100);
        x.pick(7);
        x.come(2, 10);
        x.pass(3);
        x.come(2, 10);
        x.pass(3);
        x.come(2, 1000);
        x.come(0, 10);
        x.come(1, 10);
        // Cow 0: 80 to 84, 40; cow 1: 84 to 89, 42 to the CAN; cow 2: 89 to 92, 8; later 9 and less.
        c.due("0", x.total(0), 40 + 8 + 9 + 0 - 7);
        c.due("1", x.total(1), 42);
        c.due("2", x.total(2), 0);
        c.due("3", x.total(3), 7);
        c.due("4", x.total(4), 40 + 42 + 8 + 9);
        c.due("5", x.total(5), 400 + 3);
        c.due("6", x.total(6), 186);
        c.due("7", x.total(7), 3);
        c.due("8", x.total(8), 8);
        c.due("9", x.total(9), 2);
        c.due("10", x.total(10), 1);
        c.due("11", x.total(11), 1);
        c.due("12", x.total(12), 0);
        c.due("13", x.total(13), BAD);
        c.due("-1", x.total(-1), BAD);
        c.due("MOST", x.total(MOST), BAD);
        c.due("LEAST", x.total(LEAST), BAD);
        x.power(false);
        x.come(2, 10);
        c.due("11", x.total(11), 0);
        c.due("9", x.total(9), 3);
        c.due("12", x.total(12), 0);
    }

    private static MilkBox withVisitsOfAllKinds() {
        MilkBox x = Farm.withCow(0, 30, 100, 5000);
        x.cow(0, 30, 0, 5000);
        x.pass(80);
        x.come(0, 11);
        x.pass(10);
        x.come(0, 12);
        x.come(1, 13);
        x.power(false);
        x.come(1, 14);
        return x;
    }

    private static void visitKinds() {
        Check c = new Check("promise 16, KINDS");
        MilkBox x = withVisitsOfAllKinds();
        int[] kinds = {1, 0, 2, 1};
        for (int visit = 0; visit < 4; visit++) {
            c.due("any " + visit, x.visit(visit, 3, 0), kinds[visit]);
            c.due("REFUSAL " + visit, x.visit(visit, 0, 0), kinds[visit] == 0 ? 0 : CAST);
            c.due("MILKING " + visit, x.visit(visit, 1, 0), kinds[visit] == 0 ? CAST : kinds[visit]);
            c.due("CUT " + visit, x.visit(visit, 2, 0), kinds[visit] == 2 ? 2 : CAST);
        }
        c.due("visit(4, 3, 0)", x.visit(4, 3, 0), UNKNOWN);
        c.due("visit(-1, 3, 0)", x.visit(-1, 3, 0), UNKNOWN);
        c.due("visit(MOST, 3, 0)", x.visit(MOST, 3, 0), UNKNOWN);
        c.due("visit(LEAST, 3, 0)", x.visit(LEAST, 3, 0), UNKNOWN);
        c.due("visit(4, 4, 11)", x.visit(4, 4, 11), UNKNOWN);
        c.due("visit(0, 4, 0)", x.visit(0, 4, 0), BAD);
        c.due("visit(0, -1, 0)", x.visit(0, -1, 0), BAD);
        c.due("visit(0, 3, 11)", x.visit(0, 3, 11), BAD);
        c.due("visit(0, 3, -1)", x.visit(0, 3, -1), BAD);
        c.due("visit(0, 0, 11): BAD ahead of CAST", x.visit(0, 0, 11), BAD);
    }

    private static void visitParts() {
        Check c = new Check("promise 16, parts");
        MilkBox x = withVisitsOfAllKinds();
        int[][] parts = {
            {1, 0, 80, 11, 0, 80, 84, 40, 0, 0, 400},
            {0, 0, 90, 12, 0, NONE, NONE, NONE, NONE, NONE, NONE},
            {2, 1, 90, 13, 0, 90, 90, 0, 0, 0, 0},
            {1, 1, 90, 14, 0, NONE, NONE, NONE, NONE, NONE, NONE}};
        for (int visit = 0; visit < 4; visit++) {
            for (int what = 0; what <= 10; what++) {
                c.due("visit(" + visit + ", 3, " + what + ")", x.visit(visit, 3, what), parts[visit][what]);
            }
        }
    }

    private static void visitUnderWay() {
        Check c = new Check("promise 16, under way");
        MilkBox x = Farm.withCow(0, 30, 0, 5000);
        x.trouble(0, 1, 4);
        x.trouble(0, 2, 5);
        x.pass(80);
        x.come(0, 11);
        x.pass(1);
        int[] parts = {1, 0, 80, 11, 0, 80, NONE, NONE, NONE, 2, NONE};
        for (int what = 0; what <= 10; what++) {
            c.due("visit(0, 1, " + what + ")", x.visit(0, 1, what), parts[what]);
        }
        c.due("not CUT yet", x.visit(0, 2, 0), CAST);
    }

    private static void visitOf() {
        Check c = new Check("promise 17");
        MilkBox x = withVisitsOfAllKinds();
        x.cow(0, 1, 0, 0);
        c.due("visitOf(0, 0)", x.visitOf(0, 0), 0);
        c.due("visitOf(0, 1)", x.visitOf(0, 1), 1);
        c.due("visitOf(0, 2)", x.visitOf(0, 2), NONE);
        c.due("visitOf(1, 0)", x.visitOf(1, 0), 2);
        c.due("visitOf(1, 1)", x.visitOf(1, 1), 3);
        c.due("visitOf(1, 2)", x.visitOf(1, 2), NONE);
        c.due("visitOf(2, 0)", x.visitOf(2, 0), NONE);
        c.due("visitOf(3, 0)", x.visitOf(3, 0), UNKNOWN);
        c.due("visitOf(-1, 0)", x.visitOf(-1, 0), UNKNOWN);
        c.due("visitOf(3, -1)", x.visitOf(3, -1), UNKNOWN);
        c.due("visitOf(0, -1)", x.visitOf(0, -1), NONE);
        c.due("visitOf(0, MOST)", x.visitOf(0, MOST), NONE);
        c.due("visitOf(0, LEAST)", x.visitOf(0, LEAST), NONE);
    }

    private static void gave() {
        Check c = new Check("promise 18");
        MilkBox x = Farm.withCow(0, 6, 0, 0);
        x.cow(0, 6, 0, 0);
        x.pass(400);
        x.come(0, 1);
        x.pass(10);
        x.pass(390);
        x.come(0, 1);
        x.come(1, 1);
        x.pass(636);
        // It begins in 1436, on DAY 0, and ends on DAY 1.
        x.come(0, 1);
        c.due("ends()", x.ends(), 1442);
        x.pass(3);
        c.due("gave(0, 0)", x.gave(0, 0), 80);
        c.due("gave(1, 0)", x.gave(1, 0), 80);
        x.pass(20);
        c.due("gave(0, 0)", x.gave(0, 0), 80);
        c.due("gave(0, 1)", x.gave(0, 1), 63);
        c.due("gave(1, 1)", x.gave(1, 1), 0);
        c.due("gave(0, 2)", x.gave(0, 2), 0);
        c.due("gave(0, MOST)", x.gave(0, MOST), 0);
        c.due("gave(0, -1)", x.gave(0, -1), BAD);
        c.due("gave(0, LEAST)", x.gave(0, LEAST), BAD);
        c.due("gave(2, 0)", x.gave(2, 0), UNKNOWN);
        c.due("gave(-1, 0)", x.gave(-1, 0), UNKNOWN);
        c.due("gave(2, -1)", x.gave(2, -1), UNKNOWN);
        // One that ends in minute 1440 is of DAY 1, in 1439 of DAY 0.
        for (int minute = 1439; minute <= 1440; minute++) {
            MilkBox y = Farm.withCow(0, 6, 0, 1000);
            y.pass(10);
            y.come(0, 1);
            y.pass(minute - 20);
            y.come(0, 1);
            c.due("ends()", y.ends(), minute);
            y.pass(100);
            c.due("gave(0, 0)", y.gave(0, 0), minute == 1439 ? 1 + 141 : 1);
            c.due("gave(0, 1)", y.gave(0, 1), minute == 1439 ? 0 : 142);
        }
        MilkBox z = Farm.withCow(0, 6, 0, 0);
        z.pass(1436);
        z.come(0, 1);
        z.pass(5);
        z.power(false);
        c.due("a CUT, gave(0, 0)", z.gave(0, 0), 0);
        c.due("a CUT, gave(0, 1)", z.gave(0, 1), 60);
    }

    private static void longest() {
        Check c = new Check("promise 19");
        MilkBox x = Farm.withCow(0, 6, 1000, 0);
        x.cow(0, 6, 0, 0);
        x.cow(0, 6, 0, 0);
        x.come(0, 1);
        c.due("at once", x.longest(), 0);
        x.come(1, 1);
        x.pass(1);
        x.come(2, 1);
        c.due("waits still", x.longest(), 0);
        x.pass(1);
        c.due("2 minutes", x.longest(), 2);
        x.pass(2);
        c.due("3 minutes", x.longest(), 3);
        x.pass(2);
        x.come(0, 1);
        x.pass(500);
        c.due("a REFUSAL waits not", x.longest(), 3);
        x.power(false);
        x.come(1, 1);
        x.pass(50);
        c.due("waits still", x.longest(), 3);
        x.power(true);
        c.due("50 minutes", x.longest(), 50);
        x.come(2, 1);
        x.pass(30);
        c.due("the longest, not the latest", x.longest(), 50);
    }

    private static void rank() {
        Check c = new Check("promise 20");
        MilkBox x = Farm.withCow(0, 6, 0, 0);
        c.due("rank(0)", x.rank(0), 0);
        c.due("rank(1)", x.rank(1), NONE);
        x.cow(0, 12, 0, 0);
        x.cow(2, 30, 0, 0);
        x.cow(0, 12, 0, 0);
        for (int i = 0; i < 4; i++) {
            c.due("of like ones the lesser", x.rank(i), i);
        }
        x.pass(101);
        x.come(2, 1);
        x.pass(10);
        x.come(3, 1);
        x.pass(4);
        x.power(false);
        c.due("rank(0)", x.rank(0), 2);
        c.due("rank(1)", x.rank(1), 3);
        c.due("rank(2)", x.rank(2), 0);
        c.due("rank(3)", x.rank(3), 1);
        c.due("rank(4)", x.rank(4), NONE);
        c.due("rank(-1)", x.rank(-1), NONE);
        c.due("rank(12)", x.rank(12), NONE);
        c.due("rank(MOST)", x.rank(MOST), NONE);
        c.due("rank(LEAST)", x.rank(LEAST), NONE);
        c.due("rank(NONE)", x.rank(NONE), NONE);
        MilkBox y = Farm.withCow(0, 6, 0, 0);
        y.cow(0, 12, 0, 0);
        y.pass(10);
        y.come(0, 1);
        y.come(1, 1);
        y.pass(10);
        c.due("one more, rank(0)", y.rank(0), 1);
        c.due("one less, rank(1)", y.rank(1), 0);
    }

    private static void until() {
        Check c = new Check("promise 21");
        MilkBox x = Farm.withCow(0, 7, 0, 0);
        x.cow(0, 1, 0, 0);
        x.cow(0, 30, 0, 0);
        c.due("until(3, 1)", x.until(3, 1), UNKNOWN);
        c.due("until(-1, 1)", x.until(-1, 1), UNKNOWN);
        c.due("until(3, 0)", x.until(3, 0), UNKNOWN);
        c.due("until(0, 0)", x.until(0, 0), BAD);
        c.due("until(0, -1)", x.until(0, -1), BAD);
        c.due("until(0, 401)", x.until(0, 401), BAD);
        c.due("until(0, MOST)", x.until(0, MOST), BAD);
        c.due("until(0, 1)", x.until(0, 1), 9);
        c.due("until(0, 7)", x.until(0, 7), 60);
        c.due("until(0, 400)", x.until(0, 400), 3429);
        c.due("until(1, 400)", x.until(1, 400), 24000);
        c.due("until(2, 1)", x.until(2, 1), 2);
        x.pass(8);
        c.due("until(0, 1)", x.until(0, 1), 1);
        c.due("about(0, 0)", x.about(0, 0), 0);
        x.pass(1);
        c.due("until(0, 1)", x.until(0, 1), 0);
        c.due("about(0, 0)", x.about(0, 0), 1);
        c.due("until(0, 2)", x.until(0, 2), 9);
        x.come(0, 1);
        x.come(2, 1);
        c.due("in the BOX", x.until(0, 1), NONE);
        c.due("in the BOX, BAD", x.until(0, 401), BAD);
        c.due("one that waits", x.until(2, 5), 1);
        x.pass(20000);
        c.due("until(2, 400)", x.until(2, 400), 0);
    }

    private static void untilWithLeft() {
        Check c = new Check("promise 21, with what was LEFT");
        MilkBox x = Farm.withCow(0, 6, 0, 0);
        x.trouble(0, 0, 4);
        x.trouble(0, 1, 4);
        x.pass(4000);
        c.due("until(0, 400)", x.until(0, 400), 0);
        x.come(0, 1);
        x.pass(18);
        c.due("box()", x.box(), NONE);
        c.due("HAS", x.about(0, 0), 201);
        c.due("until(0, 200)", x.until(0, 200), 0);
        c.due("until(0, 201)", x.until(0, 201), 0);
        c.due("until(0, 202)", x.until(0, 202), 2);
        c.due("until(0, 400)", x.until(0, 400), 2000 - 18);
        x.pass(1981);
        c.due("HAS", x.about(0, 0), 399);
        c.due("until(0, 400)", x.until(0, 400), 1);
    }
}
