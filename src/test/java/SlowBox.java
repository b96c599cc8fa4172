import java.util.ArrayList;
import java.util.Comparator;
import java.util.List;

/** The document told again in its slowest form: minute by minute, every sum counted anew from the visits. */
final class SlowBox {
    private static final int UNKNOWN = -1, BAD = -2, STATE = -3, FULL = -4, NONE = -9, CAST = -13;

    private static final class Beast {
        int number;
        int kind;
        int rate;
        int wait;
        int feed;
        int there;
        int withheld;
        int[] trouble = new int[4];
    }

    private static final class Call {
        Beast beast;
        int minute;
        int reading;
        boolean alarm;
        boolean refused;
        boolean cut;
        Integer began;
        Integer ended;
        int[] teats;
        int[] troubles;
        int milked;
        int went;
        int grams;
    }

    private final List<Beast> beasts = new ArrayList<>();
    private final List<Call> calls = new ArrayList<>();
    private final List<Call> waiting = new ArrayList<>();
    private Call inside = null;
    private int now = 0;
    private boolean on = true;
    private int roomOfTank = 5000;
    private int picked = 0;

    int cow(int kind, int rate, int wait, int feed) {
        boolean good = kind >= 0 && kind <= 2 && rate >= 1 && rate <= 30
            && wait >= 0 && wait <= 1440 && feed >= 0 && feed <= 5000;
        if (!good) {
            return BAD;
        }
        if (beasts.size() == 12) {
            return FULL;
        }
        Beast b = new Beast();
        b.number = beasts.size();
        b.kind = kind;
        b.rate = rate;
        b.wait = wait;
        b.feed = feed;
        b.there = now;
        beasts.add(b);
        return b.number;
    }

    int taken(int cow, int kind, int what) {
        if (!known(cow)) {
            return UNKNOWN;
        }
        if (kind < 0 || kind > 2 || what < 0 || what > 3) {
            return BAD;
        }
        Beast b = beasts.get(cow);
        if (kind == 1 && b.kind != 1 || kind == 2 && b.kind != 2) {
            return CAST;
        }
        return new int[] {b.kind, b.rate, b.wait, b.feed}[what];
    }

    int withhold(int cow, int minute) {
        if (!known(cow)) {
            return UNKNOWN;
        }
        if (minute < 0 || minute > 200000) {
            return BAD;
        }
        int was = beasts.get(cow).withheld;
        beasts.get(cow).withheld = minute;
        return was;
    }

    int trouble(int cow, int teat, int t) {
        if (!known(cow) || teat < 0 || teat > 3) {
            return UNKNOWN;
        }
        if (t < 0 || t > 9) {
            return BAD;
        }
        int was = beasts.get(cow).trouble[teat];
        beasts.get(cow).trouble[teat] = t;
        return was;
    }

    int about(int cow, int what) {
        if (!known(cow)) {
            return UNKNOWN;
        }
        Beast b = beasts.get(cow);
        switch (what) {
            case 0: return has(b, now);
            case 1: return latest(b) == null ? NONE : latest(b).began;
            case 2: return right(b) ? 1 : 0;
            case 3: return fed(b, now / 1440);
            case 4:
                for (int i = 0; i < waiting.size(); i++) {
                    if (waiting.get(i).beast == b) {
                        return i;
                    }
                }
                return NONE;
            case 5: return calls.stream().filter(c -> c.beast == b && c.ended != null).mapToInt(c -> c.milked).sum();
            case 6: return (int) calls.stream().filter(c -> c.beast == b).count();
            default: return BAD;
        }
    }

    int pass(int n) {
        if (n < 1 || n > 20000) {
            return BAD;
        }
        if (now + n > 100000) {
            return FULL;
        }
        for (int i = 0; i < n; i++) {
            now++;
            if (inside != null && now == inside.began + minutes(inside)) {
                leave(false);
            }
            enter();
        }
        return now;
    }

    int come(int cow, int reading) {
        if (!known(cow)) {
            return UNKNOWN;
        }
        if (reading < 0 || reading > 1000) {
            return BAD;
        }
        Beast b = beasts.get(cow);
        if (inside != null && inside.beast == b || about(cow, 4) != NONE) {
            return STATE;
        }
        if (calls.size() == 500) {
            return FULL;
        }
        List<Integer> ahead = new ArrayList<>();
        for (Call c : calls) {
            if (c.beast == b) {
                ahead.add(c.reading);
            }
        }
        Call c = new Call();
        c.beast = b;
        c.minute = now;
        c.reading = reading;
        if (ahead.size() >= 3) {
            List<Integer> last = ahead.subList(Math.max(0, ahead.size() - 5), ahead.size());
            int sum = last.stream().mapToInt(r -> r).sum();
            c.alarm = 10 * reading * last.size() > 12 * sum;
        }
        c.refused = !right(b);
        calls.add(c);
        if (!c.refused) {
            waiting.add(c);
        }
        enter();
        return calls.size() - 1;
    }

    int power(boolean goesOn) {
        int was = on ? 1 : 0;
        on = goesOn;
        if (!on && inside != null) {
            leave(true);
        }
        enter();
        return was;
    }

    int box() {
        return inside == null ? NONE : inside.beast.number;
    }

    int queue(int i) {
        return i < 0 || i >= waiting.size() ? NONE : waiting.get(i).beast.number;
    }

    int ends() {
        return inside == null ? NONE : inside.began + minutes(inside);
    }

    int room(int n) {
        if (n < 1 || n > 100000) {
            return BAD;
        }
        if (sumOf(0) - picked > n) {
            return STATE;
        }
        int was = roomOfTank;
        roomOfTank = n;
        return was;
    }

    int pick(int n) {
        if (n < 1 || n > 100000) {
            return BAD;
        }
        int there = sumOf(0) - picked;
        int much = n < there ? n : there;
        picked += much;
        return much;
    }

    int total(int what) {
        switch (what) {
            case 0: return sumOf(0) - picked;
            case 1: return sumOf(1);
            case 2: return sumOf(2);
            case 3: return picked;
            case 4: return sumOf(0) + sumOf(1) + sumOf(2);
            case 5: return calls.stream().mapToInt(c -> c.grams).sum();
            case 6: return now;
            case 7: return beasts.size();
            case 8: return calls.size();
            case 9: return waiting.size();
            case 10: return (int) calls.stream().filter(c -> c.alarm).count();
            case 11: return on ? 1 : 0;
            case 12: return (int) calls.stream().filter(c -> c.refused).count();
            default: return BAD;
        }
    }

    int visit(int visit, int kind, int what) {
        if (visit < 0 || visit >= calls.size()) {
            return UNKNOWN;
        }
        if (kind < 0 || kind > 3 || what < 0 || what > 10) {
            return BAD;
        }
        Call c = calls.get(visit);
        if (kind == 0 && !c.refused || kind == 1 && c.refused || kind == 2 && !c.cut) {
            return CAST;
        }
        switch (what) {
            case 0: return c.refused ? 0 : c.cut ? 2 : 1;
            case 1: return c.beast.number;
            case 2: return c.minute;
            case 3: return c.reading;
            case 4: return c.alarm ? 1 : 0;
            case 5: return c.began == null ? NONE : c.began;
            case 6: return c.ended == null ? NONE : c.ended;
            case 7: return c.ended == null ? NONE : c.milked;
            case 8: return c.ended == null ? NONE : c.went;
            case 9: return c.began == null ? NONE : lost(c);
            default: return c.ended == null ? NONE : c.grams;
        }
    }

    int visitOf(int cow, int i) {
        if (!known(cow)) {
            return UNKNOWN;
        }
        List<Integer> own = new ArrayList<>();
        for (int v = 0; v < calls.size(); v++) {
            if (calls.get(v).beast.number == cow) {
                own.add(v);
            }
        }
        return i < 0 || i >= own.size() ? NONE : own.get(i);
    }

    int gave(int cow, int day) {
        if (!known(cow)) {
            return UNKNOWN;
        }
        if (day < 0) {
            return BAD;
        }
        int sum = 0;
        for (Call c : calls) {
            if (c.beast.number == cow && c.ended != null && c.ended >= 1440L * day && c.ended < 1440L * (day + 1L)) {
                sum += c.milked;
            }
        }
        return sum;
    }

    int longest() {
        return calls.stream().filter(c -> c.began != null).mapToInt(c -> c.began - c.minute).max().orElse(0);
    }

    int rank(int i) {
        List<Beast> order = new ArrayList<>(beasts);
        order.sort(Comparator.comparingInt(b -> -about(b.number, 5)));
        return i < 0 || i >= order.size() ? NONE : order.get(i).number;
    }

    int until(int cow, int milk) {
        if (!known(cow)) {
            return UNKNOWN;
        }
        if (milk < 1 || milk > 400) {
            return BAD;
        }
        Beast b = beasts.get(cow);
        if (inside != null && inside.beast == b) {
            return NONE;
        }
        int m = 0;
        while (has(b, now + m) < milk) {
            m++;
        }
        return m;
    }

    private boolean known(int cow) {
        return cow >= 0 && cow < beasts.size();
    }

    private Call latest(Beast b) {
        Call found = null;
        for (Call c : calls) {
            if (c.beast == b && c.began != null) {
                found = c;
            }
        }
        return found;
    }

    private boolean right(Beast b) {
        return latest(b) == null || now - latest(b).began >= b.wait;
    }

    private int has(Beast b, int minute) {
        Call c = latest(b);
        int from = c == null ? b.there : c.began;
        int left = 0;
        if (c != null && c.ended != null) {
            for (int teat : c.teats) {
                left += teat;
            }
            left -= c.milked;
        }
        int all = left + b.rate * (minute - from) / 60;
        return all > 400 ? 400 : all;
    }

    private int fed(Beast b, int day) {
        int sum = 0;
        for (Call c : calls) {
            if (c.beast == b && c.ended != null && c.ended / 1440 == day) {
                sum += c.grams;
            }
        }
        return sum;
    }

    private int sumOf(int where) {
        int sum = 0;
        for (Call c : calls) {
            if (c.ended != null && c.went == where) {
                sum += c.milked;
            }
        }
        return sum;
    }

    private int lost(Call c) {
        int n = 0;
        for (int t : c.troubles) {
            n += t > 3 ? 1 : 0;
        }
        return n;
    }

    private int minutesAhead(Call c) {
        int n = 2;
        for (int t : c.troubles) {
            n += t > 3 ? 3 : t;
        }
        return n;
    }

    private int milkOfAll(Call c) {
        int n = 0;
        for (int teat = 0; teat < 4; teat++) {
            n += c.troubles[teat] > 3 ? 0 : c.teats[teat];
        }
        return n;
    }

    private int minutes(Call c) {
        int n = minutesAhead(c);
        for (int milk = milkOfAll(c); milk > 0; milk -= 20) {
            n++;
        }
        return n;
    }

    private void enter() {
        if (inside != null || !on || waiting.isEmpty()) {
            return;
        }
        Call next = waiting.get(0);
        for (Call c : waiting) {
            if (c.beast.kind == 1 && now - c.minute >= 30) {
                next = c;
                break;
            }
        }
        waiting.remove(next);
        int there = has(next.beast, now);
        next.teats = new int[] {there / 4, there / 4, there / 4, there / 4};
        next.teats[0] += there - there / 4 * 4;
        next.troubles = next.beast.trouble;
        next.beast.trouble = new int[4];
        next.began = now;
        inside = next;
    }

    private void leave(boolean cut) {
        Call c = inside;
        int milk = milkOfAll(c);
        if (cut) {
            int flown = 0;
            for (int minute = c.began + minutesAhead(c); minute < now; minute++) {
                flown += 20;
            }
            milk = flown < milk ? flown : milk;
        }
        boolean withheld = c.beast.kind == 2 || c.beast.withheld > now;
        c.went = withheld ? 1 : sumOf(0) - picked + milk <= roomOfTank ? 0 : 2;
        int leftOfFeed = c.beast.feed - fed(c.beast, now / 1440);
        c.milked = milk;
        c.grams = 10 * milk < leftOfFeed ? 10 * milk : leftOfFeed;
        c.cut = cut;
        c.ended = now;
        inside = null;
    }
}
