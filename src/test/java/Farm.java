/** Boxes in states that several tests want. */
final class Farm {
    private static final int LONGEST_PASS = 20000;

    private Farm() {
    }

    /** A cow of rate 6 has a tenth of its minutes, one of rate 30 the half of them, up to 400. */
    static MilkBox withCow(int kind, int rate, int wait, int feed) {
        MilkBox x = new MilkBox();
        x.cow(kind, rate, wait, feed);
        return x;
    }

    /** So many cows without milk to speak of. */
    static MilkBox withCows(int count) {
        MilkBox x = new MilkBox();
        for (int i = 0; i < count; i++) {
            x.cow(0, 1, 0, 0);
        }
        return x;
    }

    static MilkBox at(int minute) {
        MilkBox x = new MilkBox();
        passTo(x, minute);
        return x;
    }

    static void passTo(MilkBox x, int minute) {
        int missing = minute - x.total(6);
        for (; missing > LONGEST_PASS; missing -= LONGEST_PASS) {
            x.pass(LONGEST_PASS);
        }
        // pass(0) is refused, and changes nothing.
        x.pass(missing);
    }

    /** One COW of rate 30 and WAIT 0 that HAS so much (0 .. 400) now, in minute 2 * milk. */
    static MilkBox having(int milk, int feed) {
        MilkBox x = withCow(0, 30, 0, feed);
        passTo(x, 2 * milk);
        return x;
    }

    /** A cow comes, enters, and is milked to the end. */
    static void milk(MilkBox x, int cow) {
        x.come(cow, 1);
        passTo(x, x.ends());
    }

    /** So many VISITS of cow 0, all but the first of them REFUSALS, in minute 2 with nobody in the BOX. */
    static MilkBox withVisits(int count) {
        MilkBox x = withCow(0, 6, 1440, 0);
        x.come(0, 1);
        x.pass(2);
        for (int i = 1; i < count; i++) {
            x.come(0, 1);
        }
        return x;
    }
}
