import java.util.ArrayList;
import java.util.List;
import java.util.Random;

/** Long runs of calls by fixed seeds: MilkBox and SlowBox must answer alike, and nothing may be thrown. */
public final class RunsTest {
    private static final int RUNS = 600, CALLS = 512;
    private static final int[] ODD = {Integer.MIN_VALUE, -100000, -13, -9, -2, -1, 0, 1, 12, 13, 31, 401, 500, 1001,
        1441, 5001, 20001, 100001, 200001, Integer.MAX_VALUE};

    private final Check check;
    private final Random random;
    private final MilkBox box = new MilkBox();
    private final SlowBox slow = new SlowBox();
    private final List<String> told = new ArrayList<>();
    private final int manner;

    private RunsTest(int run) {
        check = new Check("run " + run);
        random = new Random(run);
        manner = run % 6;
    }

    public static void main(String[] args) {
        for (int run = 0; run < RUNS; run++) {
            new RunsTest(run).go();
        }
        Check.close();
    }

    private void go() {
        int cows = manner == 1 ? 12 : 1 + random.nextInt(12);
        for (int i = 0; i < cows; i++) {
            addCow();
        }
        for (int i = cows; i < CALLS; i++) {
            if (!step()) {
                return;
            }
        }
    }

    private void addCow() {
        int longestWait = manner == 2 ? 1440 : 300;
        int kind = random.nextInt(3);
        int rate = 1 + random.nextInt(30);
        int wait = random.nextInt(3) == 0 ? 0 : random.nextInt(longestWait + 1);
        int feed = random.nextInt(3) == 0 ? random.nextInt(300) : random.nextInt(5001);
        alike("cow(" + kind + ", " + rate + ", " + wait + ", " + feed + ")",
            box.cow(kind, rate, wait, feed), slow.cow(kind, rate, wait, feed));
    }

    private boolean alike(String call, int got, int want) {
        told.add(call);
        check.due(call + " as call " + told.size(), got, want);
        return got == want;
    }

    // A number of the range, or now and then one beside it.
    private int some(int least, int most) {
        int pick = random.nextInt(40);
        if (pick == 0) {
            return ODD[random.nextInt(ODD.length)];
        }
        if (pick == 1) {
            return random.nextBoolean() ? least - 1 : most + 1;
        }
        if (pick == 2) {
            return random.nextBoolean() ? least : most;
        }
        return least + random.nextInt(most - least + 1);
    }

    private int someCow() {
        return some(0, Math.max(0, slow.total(7) - 1));
    }

    private int someVisit() {
        int visits = slow.total(8);
        return visits > 3 && random.nextBoolean() ? some(visits - 3, visits - 1) : some(0, Math.max(0, visits - 1));
    }

    private int someMinutes() {
        switch (manner) {
            case 1: return some(1, 12);
            case 2: return some(1, 700);
            case 3: return random.nextInt(8) == 0 ? some(1, 2000) : some(1, 30);
            case 4: return random.nextInt(10) == 0 ? some(1, 20000) : some(1, 40);
            default: return some(1, 120);
        }
    }

    private int someReading() {
        return random.nextInt(3) == 0 ? some(0, 1000) : some(95, 130);
    }

    private boolean step() {
        int pick = random.nextInt(100);
        if (manner == 5 && pick < 60) {
            return comes();
        }
        if (pick < 25) {
            return comes();
        }
        if (pick < 42) {
            int n = someMinutes();
            return alike("pass(" + n + ")", box.pass(n), slow.pass(n));
        }
        if (pick < 48) {
            boolean on = random.nextInt(manner == 3 ? 3 : 5) != 0;
            return alike("power(" + on + ")", box.power(on), slow.power(on));
        }
        if (pick < 62) {
            return tells();
        }
        return asks();
    }

    private boolean comes() {
        int cow = someCow();
        int reading = someReading();
        return alike("come(" + cow + ", " + reading + ")", box.come(cow, reading), slow.come(cow, reading));
    }

    private boolean tells() {
        int cow = someCow();
        switch (random.nextInt(8)) {
            case 0: {
                int minute = random.nextInt(4) == 0 ? some(0, 200000) : Math.max(0, slow.total(6) + some(-5, 60));
                return alike("withhold(" + cow + ", " + minute + ")", box.withhold(cow, minute), slow.withhold(cow, minute));
            }
            case 1: case 2: case 3: {
                int teat = some(0, 3);
                int t = some(0, random.nextBoolean() ? 9 : 3);
                return alike("trouble(" + cow + ", " + teat + ", " + t + ")",
                    box.trouble(cow, teat, t), slow.trouble(cow, teat, t));
            }
            case 4: case 5: {
                int n = random.nextBoolean() ? some(1, 100000) : some(1, 300) + Math.max(0, slow.total(0));
                return alike("room(" + n + ")", box.room(n), slow.room(n));
            }
            case 6: {
                int n = random.nextInt(3) == 0 ? some(1, 100000) : some(1, 200);
                return alike("pick(" + n + ")", box.pick(n), slow.pick(n));
            }
            default: {
                int kind = some(0, 2);
                int rate = some(1, 30);
                int wait = some(0, 1440);
                int feed = some(0, 5000);
                return alike("cow(" + kind + ", " + rate + ", " + wait + ", " + feed + ")",
                    box.cow(kind, rate, wait, feed), slow.cow(kind, rate, wait, feed));
            }
        }
    }

    private boolean asks() {
        int cow = someCow();
        switch (random.nextInt(14)) {
            case 0: case 1: case 2: {
                int what = some(0, 6);
                return alike("about(" + cow + ", " + what + ")", box.about(cow, what), slow.about(cow, what));
            }
            case 3: case 4: case 5: {
                int visit = someVisit();
                int kind = random.nextInt(3) == 0 ? some(0, 3) : 3;
                int what = some(0, 10);
                return alike("visit(" + visit + ", " + kind + ", " + what + ")",
                    box.visit(visit, kind, what), slow.visit(visit, kind, what));
            }
            case 6: case 7: {
                int what = some(0, 12);
                return alike("total(" + what + ")", box.total(what), slow.total(what));
            }
            case 8: {
                int i = some(0, 5);
                return alike("queue(" + i + ")", box.queue(i), slow.queue(i));
            }
            case 9: {
                int milk = some(1, 400);
                return alike("until(" + cow + ", " + milk + ")", box.until(cow, milk), slow.until(cow, milk));
            }
            case 10: {
                int day = some(0, slow.total(6) / 1440 + 1);
                return alike("gave(" + cow + ", " + day + ")", box.gave(cow, day), slow.gave(cow, day));
            }
            case 11: {
                int i = some(0, 20);
                return alike("visitOf(" + cow + ", " + i + ")", box.visitOf(cow, i), slow.visitOf(cow, i));
            }
            case 12: {
                int i = some(0, 12);
                return alike("rank(" + i + ")", box.rank(i), slow.rank(i));
            }
            default: return asksShort(cow);
        }
    }

    private boolean asksShort(int cow) {
        switch (random.nextInt(4)) {
            case 0: return alike("box()", box.box(), slow.box());
            case 1: return alike("ends()", box.ends(), slow.ends());
            case 2: return alike("longest()", box.longest(), slow.longest());
            default: {
                int kind = some(0, 2);
                int what = some(0, 3);
                return alike("taken(" + cow + ", " + kind + ", " + what + ")",
                    box.taken(cow, kind, what), slow.taken(cow, kind, what));
            }
        }
    }
}
