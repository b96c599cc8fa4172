import java.util.ArrayList;
import java.util.List;
import java.util.function.Supplier;
import java.util.function.ToIntFunction;

/** REFUSALS of calls: of several what is told first, and what is refused changes nothing. */
public final class RefusalsTest {
    private static final int UNKNOWN = -1, BAD = -2, STATE = -3, FULL = -4, NONE = -9, CAST = -13;
    private static final int LEAST = Integer.MIN_VALUE, MOST = Integer.MAX_VALUE;

    /** A call, with the answer that is due. */
    private static final class Call {
        final String name;
        final int due;
        final ToIntFunction<MilkBox> made;

        Call(String name, int due, ToIntFunction<MilkBox> made) {
            this.name = name;
            this.due = due;
            this.made = made;
        }
    }

    public static void main(String[] args) {
        orderOfCow();
        orderOfTaken();
        orderOfWithholdAndTrouble();
        orderOfAbout();
        orderOfPass();
        orderOfCome();
        orderOfComeWhenFull();
        orderOfRoom();
        orderOfVisit();
        orderOfTheBooks();
        nothingChanges();
        nothingChangesWhenCowsAreFull();
        nothingChangesWhenVisitsAreFull();
        nothingChangesAtTheLastMinute();
        askingChangesNothing();
        Check.close();
    }

    // ---- of several what is told first

    private static void orderOfCow() {
        Check c = new Check("cow: BAD, FULL");
        int[][] bad = {{-1, 1, 0, 0}, {3, 1, 0, 0}, {0, 0, 0, 0}, {0, 31, 0, 0}, {0, 1, -1, 0}, {0, 1, 1441, 0},
            {0, 1, 0, -1}, {0, 1, 0, 5001}, {3, 31, 1441, 5001}};
        for (int count : new int[] {11, 12}) {
            for (int[] one : bad) {
                c.due("a BAD one behind " + count, Farm.withCows(count).cow(one[0], one[1], one[2], one[3]), BAD);
            }
            c.due("a good one behind " + count, Farm.withCows(count).cow(2, 30, 1440, 5000), count == 11 ? 11 : FULL);
        }
    }

    private static void orderOfTaken() {
        Check c = new Check("taken: UNKNOWN, BAD, CAST");
        MilkBox x = Farm.withCows(1);
        c.due("UNKNOWN and BAD kind", x.taken(1, 3, 0), UNKNOWN);
        c.due("UNKNOWN and BAD what", x.taken(1, 0, 4), UNKNOWN);
        c.due("UNKNOWN and both", x.taken(-1, -1, -1), UNKNOWN);
        c.due("UNKNOWN and CAST", x.taken(1, 1, 0), UNKNOWN);
        c.due("BAD what and CAST to SHY", x.taken(0, 1, 4), BAD);
        c.due("BAD what and CAST to SICK", x.taken(0, 2, -1), BAD);
        c.due("CAST to SHY alone", x.taken(0, 1, 3), CAST);
        c.due("CAST to SICK alone", x.taken(0, 2, 0), CAST);
    }

    private static void orderOfWithholdAndTrouble() {
        Check c = new Check("withhold, trouble: UNKNOWN, BAD");
        MilkBox x = Farm.withCows(1);
        c.due("withhold, both", x.withhold(1, -1), UNKNOWN);
        c.due("withhold, both", x.withhold(-1, 200001), UNKNOWN);
        c.due("withhold, BAD alone", x.withhold(0, 200001), BAD);
        c.due("trouble, no cow and BAD", x.trouble(1, 0, 10), UNKNOWN);
        c.due("trouble, no teat and BAD", x.trouble(0, 4, 10), UNKNOWN);
        c.due("trouble, no teat and BAD", x.trouble(0, -1, -1), UNKNOWN);
        c.due("trouble, neither and BAD", x.trouble(-1, 4, -1), UNKNOWN);
        c.due("trouble, BAD alone", x.trouble(0, 3, 10), BAD);
    }

    private static void orderOfAbout() {
        Check c = new Check("about: UNKNOWN, BAD");
        MilkBox x = Farm.withCows(1);
        c.due("both", x.about(1, 7), UNKNOWN);
        c.due("both", x.about(-1, -1), UNKNOWN);
        c.due("BAD alone", x.about(0, 7), BAD);
    }

    private static void orderOfPass() {
        Check c = new Check("pass: BAD, FULL");
        MilkBox x = Farm.at(100000);
        c.due("both", x.pass(20001), BAD);
        c.due("both", x.pass(MOST), BAD);
        c.due("BAD alone", x.pass(0), BAD);
        c.due("BAD alone", x.pass(LEAST), BAD);
        c.due("FULL alone", x.pass(1), FULL);
        c.due("FULL alone", x.pass(20000), FULL);
    }

    private static void orderOfCome() {
        Check c = new Check("come: UNKNOWN, BAD, STATE");
        MilkBox x = Farm.withCows(2);
        x.come(0, 1);
        x.come(1, 1);
        c.due("UNKNOWN and BAD", x.come(2, 1001), UNKNOWN);
        c.due("UNKNOWN and BAD", x.come(-1, -1), UNKNOWN);
        c.due("BAD, in the BOX", x.come(0, 1001), BAD);
        c.due("BAD, it waits", x.come(1, -1), BAD);
        c.due("in the BOX alone", x.come(0, 1000), STATE);
        c.due("it waits alone", x.come(1, 0), STATE);
    }

    // 500 VISITS: cow 0 has neither the RIGHT nor come; cow 1 is in the BOX; cow 2 waits.
    private static MilkBox withAllVisits() {
        MilkBox x = Farm.withVisits(498);
        x.cow(0, 1, 0, 0);
        x.cow(0, 1, 0, 0);
        x.come(1, 1);
        x.come(2, 1);
        return x;
    }

    private static void orderOfComeWhenFull() {
        Check c = new Check("come: UNKNOWN, BAD, STATE, FULL");
        c.due("UNKNOWN and FULL", withAllVisits().come(3, 1), UNKNOWN);
        c.due("UNKNOWN, BAD and FULL", withAllVisits().come(-1, 1001), UNKNOWN);
        c.due("BAD and FULL", withAllVisits().come(0, 1001), BAD);
        c.due("BAD and FULL", withAllVisits().come(0, -1), BAD);
        c.due("BAD, in the BOX and FULL", withAllVisits().come(1, 1001), BAD);
        c.due("in the BOX and FULL", withAllVisits().come(1, 1), STATE);
        c.due("it waits and FULL", withAllVisits().come(2, 1), STATE);
        c.due("FULL alone", withAllVisits().come(0, 1), FULL);
        MilkBox ended = withAllVisits();
        ended.pass(2);
        c.due("FULL alone, with the RIGHT", ended.come(1, 1), FULL);
    }

    private static void orderOfRoom() {
        Check c = new Check("room: BAD, STATE");
        MilkBox x = Farm.having(50, 0);
        Farm.milk(x, 0);
        c.due("both", x.room(0), BAD);
        c.due("both", x.room(-1), BAD);
        c.due("both", x.room(LEAST), BAD);
        c.due("BAD alone", x.room(100001), BAD);
        c.due("STATE alone", x.room(1), STATE);
        c.due("STATE alone", x.room(49), STATE);
    }

    private static void orderOfVisit() {
        Check c = new Check("visit: UNKNOWN, BAD, CAST");
        MilkBox x = Farm.withVisits(2);
        c.due("UNKNOWN and BAD kind", x.visit(2, 4, 0), UNKNOWN);
        c.due("UNKNOWN and BAD what", x.visit(2, 3, 11), UNKNOWN);
        c.due("UNKNOWN and both", x.visit(-1, -1, -1), UNKNOWN);
        c.due("BAD what and CAST of a MILKING", x.visit(0, 0, 11), BAD);
        c.due("BAD what and CAST of a MILKING", x.visit(0, 2, -1), BAD);
        c.due("BAD what and CAST of a REFUSAL", x.visit(1, 1, 11), BAD);
        c.due("CAST of a MILKING alone", x.visit(0, 0, 10), CAST);
        c.due("CAST of a MILKING alone", x.visit(0, 2, 10), CAST);
        c.due("CAST of a REFUSAL alone", x.visit(1, 1, 0), CAST);
        c.due("CAST of a REFUSAL, ahead of NONE", x.visit(1, 1, 5), CAST);
        c.due("NONE of a REFUSAL", x.visit(1, 0, 5), NONE);
    }

    private static void orderOfTheBooks() {
        Check c = new Check("visitOf: UNKNOWN; gave: UNKNOWN, BAD; until: UNKNOWN, BAD");
        MilkBox x = Farm.withCows(1);
        x.come(0, 1);
        c.due("visitOf, UNKNOWN ahead of NONE", x.visitOf(1, -1), UNKNOWN);
        c.due("visitOf, NONE alone", x.visitOf(0, -1), NONE);
        c.due("gave, both", x.gave(1, -1), UNKNOWN);
        c.due("gave, BAD alone", x.gave(0, -1), BAD);
        c.due("until, both", x.until(1, 0), UNKNOWN);
        c.due("until, both", x.until(-1, 401), UNKNOWN);
        c.due("until, BAD ahead of NONE", x.until(0, 0), BAD);
        c.due("until, BAD ahead of NONE", x.until(0, 401), BAD);
        c.due("until, NONE alone", x.until(0, 400), NONE);
    }

    // ---- what is refused changes nothing

    /** All that an object tells; the calls that tell it by changing it are made alike of both twins. */
    private static List<Integer> told(MilkBox x, int cows, int visits) {
        List<Integer> all = new ArrayList<>();
        for (int what = 0; what <= 12; what++) {
            all.add(x.total(what));
        }
        all.add(x.box());
        all.add(x.ends());
        all.add(x.longest());
        for (int cow = 0; cow < cows; cow++) {
            for (int what = 0; what <= 6; what++) {
                all.add(x.about(cow, what));
            }
            all.add(x.until(cow, 400));
            all.add(x.queue(cow));
            all.add(x.rank(cow));
            all.add(x.gave(cow, 0));
        }
        for (int visit = 0; visit < visits; visit++) {
            for (int what = 0; what <= 10; what++) {
                all.add(x.visit(visit, 3, what));
            }
        }
        return all;
    }

    private static List<Integer> toldByChanging(MilkBox x, int cows) {
        List<Integer> all = new ArrayList<>();
        for (int cow = 0; cow < cows; cow++) {
            all.add(x.withhold(cow, 300));
            for (int teat = 0; teat < 4; teat++) {
                all.add(x.trouble(cow, teat, 2));
            }
            all.add(x.taken(cow, 0, 1));
        }
        all.add(x.room(777));
        all.add(x.pick(3));
        all.add(x.cow(1, 9, 9, 9));
        return all;
    }

    // Each call is made of one of two twins, which then must tell the same.
    private static void alike(Check c, Supplier<MilkBox> made, int cows, int visits, Call[] calls) {
        for (Call call : calls) {
            MilkBox one = made.get();
            MilkBox other = made.get();
            c.due(call.name, call.made.applyAsInt(other), call.due);
            c.holds(call.name + " changed what is told at once", told(one, cows, visits).equals(told(other, cows, visits)));
            one.pass(10);
            other.pass(10);
            c.holds(call.name + " changed what is told behind it", told(one, cows, visits).equals(told(other, cows, visits)));
            c.holds(call.name + " changed what was told ahead of it",
                toldByChanging(one, cows).equals(toldByChanging(other, cows)));
        }
    }

    // Cow 0 was milked and is without the RIGHT, 1 is in the BOX, 2 (SHY) and 3 (SICK) wait, 4 was CUT.
    private static MilkBox busy() {
        MilkBox x = new MilkBox();
        int[] kinds = {0, 0, 1, 2, 0};
        for (int cow = 0; cow < 5; cow++) {
            x.cow(kinds[cow], 30, 500, 300);
        }
        x.room(90);
        x.pass(100);
        Farm.milk(x, 0);
        x.come(0, 40);
        x.come(4, 41);
        x.pass(3);
        x.power(false);
        x.power(true);
        x.trouble(1, 2, 1);
        x.come(1, 42);
        x.come(2, 43);
        x.come(3, 44);
        x.withhold(1, 150);
        x.trouble(0, 1, 3);
        x.trouble(1, 3, 5);
        x.trouble(3, 0, 9);
        x.pass(1);
        return x;
    }

    private static Call[] refusedOfBusy() {
        return new Call[] {
            new Call("cow, kind", BAD, x -> x.cow(3, 1, 0, 0)),
            new Call("cow, rate", BAD, x -> x.cow(0, 31, 0, 0)),
            new Call("cow, wait", BAD, x -> x.cow(0, 1, 1441, 0)),
            new Call("cow, feed", BAD, x -> x.cow(0, 1, 0, -1)),
            new Call("taken, cow", UNKNOWN, x -> x.taken(5, 0, 0)),
            new Call("taken, kind", BAD, x -> x.taken(0, 3, 0)),
            new Call("taken, what", BAD, x -> x.taken(0, 0, 4)),
            new Call("taken, CAST", CAST, x -> x.taken(0, 1, 0)),
            new Call("withhold, cow", UNKNOWN, x -> x.withhold(5, 900)),
            new Call("withhold, low", BAD, x -> x.withhold(1, -1)),
            new Call("withhold, high", BAD, x -> x.withhold(1, 200001)),
            new Call("trouble, cow", UNKNOWN, x -> x.trouble(5, 0, 1)),
            new Call("trouble, teat", UNKNOWN, x -> x.trouble(0, 4, 1)),
            new Call("trouble, low", BAD, x -> x.trouble(0, 1, -1)),
            new Call("trouble, high", BAD, x -> x.trouble(0, 1, 10)),
            new Call("about, cow", UNKNOWN, x -> x.about(-1, 0)),
            new Call("about, what", BAD, x -> x.about(0, 7)),
            new Call("pass, low", BAD, x -> x.pass(0)),
            new Call("pass, below 0", BAD, x -> x.pass(-5)),
            new Call("pass, high", BAD, x -> x.pass(20001)),
            new Call("come, cow", UNKNOWN, x -> x.come(5, 1)),
            new Call("come, low", BAD, x -> x.come(0, -1)),
            new Call("come, high", BAD, x -> x.come(0, 1001)),
            new Call("come, in the BOX", STATE, x -> x.come(1, 1)),
            new Call("come, it waits", STATE, x -> x.come(2, 999)),
            new Call("room, low", BAD, x -> x.room(0)),
            new Call("room, high", BAD, x -> x.room(100001)),
            new Call("room, it has more", STATE, x -> x.room(49)),
            new Call("pick, low", BAD, x -> x.pick(0)),
            new Call("pick, high", BAD, x -> x.pick(100001)),
            new Call("total", BAD, x -> x.total(13)),
            new Call("visit, number", UNKNOWN, x -> x.visit(6, 3, 0)),
            new Call("visit, kind", BAD, x -> x.visit(0, 4, 0)),
            new Call("visit, what", BAD, x -> x.visit(0, 3, 11)),
            new Call("visit, CAST", CAST, x -> x.visit(0, 0, 0)),
            new Call("visitOf, cow", UNKNOWN, x -> x.visitOf(5, 0)),
            new Call("gave, cow", UNKNOWN, x -> x.gave(5, 0)),
            new Call("gave, day", BAD, x -> x.gave(0, -1)),
            new Call("until, cow", UNKNOWN, x -> x.until(5, 1)),
            new Call("until, milk", BAD, x -> x.until(0, 0))};
    }

    private static void nothingChanges() {
        alike(new Check("What is refused changes nothing"), RefusalsTest::busy, 5, 6, refusedOfBusy());
    }

    private static void nothingChangesWhenCowsAreFull() {
        Call[] calls = {new Call("a 13th cow", FULL, x -> x.cow(1, 30, 7, 7)),
            new Call("a 13th cow that is BAD", BAD, x -> x.cow(1, 31, 7, 7))};
        alike(new Check("What is refused changes nothing: 12 cows"), () -> Farm.withCows(12), 12, 0, calls);
    }

    private static void nothingChangesWhenVisitsAreFull() {
        Check c = new Check("What is refused changes nothing: 500 VISITS");
        // There are few calls left of 512: what FULL could have changed is looked at in turn.
        for (int call = 0; call <= 7; call++) {
            MilkBox one = withAllVisits();
            MilkBox other = withAllVisits();
            c.due("come(0, 1000)", other.come(0, 1000), FULL);
            one.pass(1);
            other.pass(1);
            c.due("call " + call, answerOf(call, other), answerOf(call, one));
        }
    }

    private static int answerOf(int call, MilkBox x) {
        switch (call) {
            case 0: return x.total(8);
            case 1: return x.total(10);
            case 2: return x.total(12);
            case 3: return x.about(0, 6);
            case 4: return x.total(9);
            case 5: return x.visitOf(0, 498);
            case 6: return x.visit(500, 3, 0);
            default: return x.visit(499, 3, 3);
        }
    }

    // Minute 99990, with one in the BOX to 99997 and one that waits.
    private static MilkBox late() {
        MilkBox x = Farm.at(99790);
        x.cow(0, 30, 0, 5000);
        x.cow(0, 30, 0, 5000);
        Farm.passTo(x, 99990);
        x.come(0, 5);
        x.come(1, 5);
        return x;
    }

    private static void nothingChangesAtTheLastMinute() {
        Check c = new Check("What is refused changes nothing: above 100000");
        Call[] calls = {new Call("pass(11)", FULL, x -> x.pass(11)), new Call("pass(20000)", FULL, x -> x.pass(20000)),
            new Call("pass(20001)", BAD, x -> x.pass(20001))};
        alike(c, RefusalsTest::late, 2, 2, calls);
        // Nothing of what would have happened meanwhile has happened.
        MilkBox x = late();
        c.due("ends()", x.ends(), 99997);
        c.due("pass(11)", x.pass(11), FULL);
        c.due("box()", x.box(), 0);
        c.due("ENDED", x.visit(0, 1, 6), NONE);
        c.due("total(4)", x.total(4), 0);
        c.due("total(6)", x.total(6), 99990);
        c.due("pass(10)", x.pass(10), 100000);
        c.due("box()", x.box(), 1);
        c.due("ENDED", x.visit(0, 1, 6), 99997);
        c.due("total(4)", x.total(4), 100);
    }

    private static void askingChangesNothing() {
        Check c = new Check("What only tells changes nothing");
        MilkBox x = busy();
        c.holds("what is told a second time is other", told(x, 5, 6).equals(told(x, 5, 6)));
        c.due("busy: box()", x.box(), 1);
        c.due("busy: total(9)", x.total(9), 2);
        c.due("busy: a REFUSAL", x.visit(1, 3, 0), 0);
        c.due("busy: a CUT", x.visit(2, 3, 0), 2);
    }
}
