import java.util.ArrayList;
import java.util.List;
import java.util.Random;

/**
 * Compares random runs of calls with a model that keeps a history alone: each answer is reckoned
 * from it anew, from the document's words, so that the two share no bookkeeping.
 */
public final class ModelTest {
    private static final int RUNS = 1500;
    private static final int CALLS = 512;
    private static int wrong;

    public static void main(String[] args) {
        for (int seed = 0; seed < RUNS && wrong < 10; seed++) {
            run(seed);
        }
        System.out.println("ModelTest: " + RUNS + " runs of " + CALLS + " calls, " + wrong + " answers not as the model's");
        if (wrong != 0) {
            System.exit(1);
        }
    }

    private static void run(int seed) {
        Random random = new Random(seed);
        BathHouse house = new BathHouse();
        Model model = new Model();
        Calls calls = new Calls(random, seed);
        for (int i = 0; i < CALLS; i++) {
            calls.next(i);
            long got = calls.ask(house);
            long due = model.answer(calls.name, calls.a, calls.v, calls.flag);
            if (got != due) {
                wrong++;
                System.out.println("seed " + seed + " call " + i + ": " + calls + " answered " + got + ", the model " + due);
                return;
            }
        }
    }

    /**
     * Draws calls, most of them sensible, some of them wild. The seed sets what a run is rich in: all kinds of
     * tickets, watchers, schools, or tickets that owe; and whether its water is mostly right.
     */
    private static final class Calls {
        private static final String[] EARLY = {"pool", "pool", "club", "club", "ticket", "ticket", "ticket", "ticket",
            "ticket", "ticket", "pump", "price", "price"};
        private static final String[] NAMES = {"ticket", "ticket", "club", "clash", "leave", "may", "may", "in", "in",
            "in", "in", "in", "in", "in", "in", "in", "in", "out", "out", "out", "out", "eye", "hand", "count", "count", "count",
            "count", "bounds", "measure", "measure", "put", "shut", "minutes", "post", "post", "post", "post", "watcher",
            "key", "key", "give", "mend", "mend", "locker", "locker", "told", "told", "told", "told", "pump", "price", "price",
            "turn", "turn", "hour", "hour", "all", "all", "go", "go", "go", "pool"};
        private static final int[][] KINDS = {{0, 1, 2, 3, 4, 5}, {5, 5, 5, 0}, {3, 3, 3, 5}, {1, 1, 2, 3}};
        private static final int[] WILD = {-1, -2, 4, 20, 30, 199, 200, 241, 1440, 100001, Integer.MAX_VALUE, Integer.MIN_VALUE};
        private static final float[] FLOATS = {0f, 0.5f, 1f, 1.25f, 1.01f, -0.5f, 0.29f, 1000f, -1000f, 1000.5f, -2000f,
            Float.NaN, Float.POSITIVE_INFINITY, Float.NEGATIVE_INFINITY, -0f, 3.14f};

        private final Random random;
        private final int longest;
        private final int clubMinutes;
        private final int[] kinds;
        private final boolean calm;
        private int ticketsTold;
        private int at;
        String name;
        int[] a = new int[5];
        float v;
        boolean flag;

        Calls(Random random, int seed) {
            this.random = random;
            kinds = KINDS[seed % 4];
            calm = seed / 4 % 4 != 0;
            longest = seed / 16 % 3 == 0 ? 30 : seed / 16 % 3 == 1 ? 8 : 1;
            clubMinutes = longest == 30 ? 700 : 100;
        }

        private int pick(int from, int to) {
            return random.nextInt(90) == 0 ? WILD[random.nextInt(WILD.length)] : from + random.nextInt(to - from + 1);
        }

        private void set(int... values) {
            a = values;
        }

        void next(int i) {
            at = i;
            name = i < 45 ? EARLY[random.nextInt(EARLY.length)] : NAMES[random.nextInt(NAMES.length)];
            if (calm && (name.equals("put") || name.equals("bounds")) && random.nextInt(8) != 0) {
                name = "measure";
            }
            flag = random.nextInt(3) != 0;
            boolean odd = random.nextInt(calm ? 60 : 4) == 0;
            v = odd ? FLOATS[random.nextInt(FLOATS.length)] : random.nextInt(101) / 100f;
            draw(pick(0, 1), pick(0, Math.max(0, ticketsTold - 1)));
        }

        private void draw(int p, int t) {
            switch (name) {
                case "pool": set(p, pick(1, random.nextInt(2) == 0 ? 6 : 100), pick(1, 4), random.nextInt(3) == 0 ? pick(1, 3) : 0); break;
                case "go": set(random.nextInt(150) == 0 ? pick(0, 241) : pick(1, longest)); break;
                case "ticket": {
                    int kind = random.nextInt(20) == 0 ? pick(0, 5) : kinds[random.nextInt(kinds.length)];
                    set(at > 45 && random.nextInt(3) != 0 ? -1 : p, kind, kind == 1 ? pick(15, 40) : pick(0, 3));
                    break;
                }
                case "club": {
                    int from = pick(0, random.nextInt(2) == 0 ? 5 : clubMinutes);
                    set(p, 1 << random.nextInt(4) | pick(0, 3) * random.nextInt(2), kinds[0] == 3 ? 0 : from, from + pick(0, clubMinutes), random.nextInt(2) * pick(1, 3));
                    break;
                }
                case "leave": set(pick(0, random.nextInt(3) == 0 ? 6 : 60)); break;
                case "eye": case "hand": case "shut": case "minutes": set(p); break;
                case "count": set(p, pick(0, 8)); break;
                case "bounds": {
                    int low = pick(-60, 30);
                    set(p, pick(0, 2), low, low + pick(-1, 130));
                    break;
                }
                case "measure": set(p, pick(0, 2)); break;
                case "put": set(p, pick(0, 5)); break;
                case "post": set(p, pick(0, 2), t); break;
                case "watcher": set(p, pick(0, 2)); break;
                case "mend": case "locker": set(pick(0, 5)); break;
                case "told": set(t, pick(0, 8)); break;
                case "pump": set(p, pick(1, 90), pick(1, 12)); break;
                case "price": set(pick(0, 23), pick(0, 3)); break;
                case "turn": set(p, pick(0, 200)); break;
                case "hour": set(pick(0, 24)); break;
                case "all": set(pick(0, 7)); break;
                case "clash": set(); break;
                default: set(t); break;
            }
        }

        long ask(BathHouse x) {
            long answer = put(x);
            ticketsTold += name.equals("ticket") && answer >= 0 ? 1 : 0;
            return answer;
        }

        private static long truth(boolean b) {
            return b ? 1 : 0;
        }

        private long put(BathHouse x) {
            switch (name) {
                case "pool": return truth(x.pool(a[0], a[1], a[2], a[3]));
                case "go": return x.go(a[0]);
                case "ticket": return x.ticket(a[0], a[1], a[2], flag);
                case "club": return x.club(a[0], a[1], a[2], a[3], a[4]);
                case "clash": return x.clash();
                case "leave": return truth(x.leave(a[0]));
                case "may": return x.may(a[0]);
                case "in": return x.in(a[0]);
                case "out": return x.out(a[0]);
                case "eye": return truth(x.eye(a[0], flag));
                case "hand": return x.hand(a[0]);
                case "count": return x.count(a[0], a[1]);
                case "bounds": return truth(x.bounds(a[0], a[1], a[2], a[3]));
                case "measure": return x.measure(a[0], a[1], v);
                case "put": return truth(x.put(a[0], a[1]));
                case "shut": return x.shut(a[0]);
                case "minutes": return x.minutes(a[0]);
                case "post": return x.post(a[0], a[1], a[2]);
                case "watcher": return x.watcher(a[0], a[1]);
                case "key": return x.key(a[0]);
                case "give": return x.give(a[0]);
                case "mend": return x.mend(a[0]);
                case "locker": return x.locker(a[0]);
                case "told": return x.told(a[0], a[1]);
                case "pump": return truth(x.pump(a[0], a[1], a[2]));
                case "price": return truth(x.price(a[0], a[1]));
                case "turn": return x.turn(a[0], a[1]);
                case "hour": return x.hour(a[0]);
                default: return x.all(a[0]);
            }
        }

        @Override
        public String toString() {
            return name + java.util.Arrays.toString(a) + " v=" + v + " flag=" + flag;
        }
    }

    private record Event(int minute, String what, int[] a, boolean flag, int answer) {
        boolean is(String name) {
            return what.equals(name);
        }
    }

    /** The history of what was done, and answers that are read from it. */
    private static final class Model {
        private final List<Event> history = new ArrayList<>();
        private int now;
        private int clash = -1;
        private int[] turnHours;
        private int turnSum;

        private void note(String what, int answer, boolean flag, int... a) {
            history.add(new Event(now, what, a, flag, answer));
        }

        private Event first(String what, int number) {
            for (Event e : history) {
                if (e.is(what) && e.a[0] == number) {
                    return e;
                }
            }
            return null;
        }

        private Event numbered(String what, int number) {
            int seen = 0;
            for (Event e : history) {
                if (e.is(what) && seen++ == number) {
                    return e;
                }
            }
            return null;
        }

        private int howMany(String what) {
            int n = 0;
            for (Event e : history) {
                n += e.is(what) ? 1 : 0;
            }
            return n;
        }

        private boolean isPool(int p) {
            return first("pool", p) != null;
        }

        private int clubEnd(int c) {
            Event left = first("leave", c);
            int to = numbered("club", c).a[3];
            return left == null ? to : Math.min(to, left.minute);
        }

        private boolean clubHas(int c, int minute) {
            return numbered("club", c).a[2] <= minute && minute < clubEnd(c);
        }

        private Event lastIn(int t) {
            Event last = null;
            for (Event e : history) {
                last = e.is("in") && e.a[0] == t ? e : last;
            }
            return last;
        }

        private boolean isIn(int t) {
            boolean in = false;
            for (Event e : history) {
                if ((e.is("in") || e.is("out")) && e.a[0] == t) {
                    in = e.is("in");
                }
            }
            return in;
        }

        private int poolOfTicket(int t) {
            return numbered("ticket", t).a[0];
        }

        private int kind(int t) {
            return numbered("ticket", t).a[1];
        }

        private int inTruth(int p, boolean watchersOnly) {
            int n = 0;
            for (int t = 0; t < howMany("ticket"); t++) {
                if ((p < 0 || poolOfTicket(t) == p) && isIn(t) && (!watchersOnly || kind(t) == 5)) {
                    n++;
                }
            }
            return n;
        }

        private int passed(String what, int p) {
            int n = 0;
            for (Event e : history) {
                n += e.is(what) && e.minute == now && poolOfTicket(e.a[0]) == p ? 1 : 0;
            }
            return n;
        }

        /** Least and most at the end of the minute at hand, from minute 0 on, piece by piece. */
        private int[] span(int p) {
            int least = 0;
            int most = 0;
            boolean on = true;
            int at = 0;
            for (int m = 0; m <= now; m++) {
                boolean allOn = on;
                int came = 0;
                int went = 0;
                for (; at < history.size() && history.get(at).minute == m; at++) {
                    Event e = history.get(at);
                    if (e.is("eye") && e.a[0] == p) {
                        on = e.flag;
                        allOn = false;
                    } else if (e.is("hand") && e.a[0] == p) {
                        least = e.answer;
                        most = e.answer;
                        came = 0;
                        went = 0;
                        allOn = on;
                    } else if (e.is("in") && poolOfTicket(e.a[0]) == p) {
                        came++;
                    } else if (e.is("out") && poolOfTicket(e.a[0]) == p) {
                        went++;
                    }
                }
                least = Math.max(0, allOn ? least + came - went : least - 3);
                most = allOn ? most + came - went : most + 3;
            }
            return new int[] {least, most};
        }

        private boolean eyeOn(int p) {
            boolean on = true;
            for (Event e : history) {
                on = e.is("eye") && e.a[0] == p ? e.flag : on;
            }
            return on;
        }

        /** Who stands at a post at the end of a minute, and since when. */
        private int[] stands(int p, int k, int minute) {
            int who = -1;
            int since = -1;
            for (Event e : history) {
                if (e.minute > minute) {
                    break;
                }
                if (e.is("post") && e.a[0] == p && e.a[1] == k) {
                    who = e.a[2];
                    since = e.minute;
                } else if (e.is("out") && e.a[0] == who) {
                    who = -1;
                }
            }
            return new int[] {who, since};
        }

        private int filled(int p, int minute) {
            int n = 0;
            for (int k = 0; k < first("pool", p).a[3]; k++) {
                int[] s = stands(p, k, minute);
                n += s[0] >= 0 && minute <= s[1] + 59 ? 1 : 0;
            }
            return n;
        }

        private int reasons(int p, int minute) {
            int[] low = {0, 0, 0};
            int[] high = {100, 100, 100};
            int[] at = {0, 0, 0};
            Integer[] value = {null, null, null};
            int reasons = 0;
            for (Event e : history) {
                if (e.minute > minute) {
                    break;
                }
                if (e.is("bounds") && e.a[0] == p) {
                    low[e.a[1]] = e.a[2];
                    high[e.a[1]] = e.a[3];
                } else if (e.is("measure") && e.a[0] == p) {
                    value[e.a[1]] = e.answer;
                    at[e.a[1]] = e.minute;
                } else if (e.is("put") && e.a[0] == p && minute <= e.minute + e.a[1] - 1) {
                    reasons |= 16;
                }
            }
            for (int i = 0; i < 3; i++) {
                if (value[i] != null && (value[i] < low[i] || value[i] > high[i])) {
                    reasons |= i == 0 ? 1 : i == 1 ? 2 : 4;
                }
                reasons |= at[i] <= minute - 120 ? 8 : 0;
            }
            return filled(p, minute) == first("pool", p).a[3] ? reasons : reasons | 32;
        }

        private int may(int t) {
            int p = poolOfTicket(t);
            int kind = kind(t);
            int a = numbered("ticket", t).a[2];
            if (isIn(t)) {
                return 1;
            }
            if (kind == 4 && lastIn(t) != null || (kind == 2 || kind == 3) && !clubHas(a, now)) {
                return 2;
            }
            if (kind != 5 && reasons(p, now) != 0) {
                return 3;
            }
            if (kind != 5 && span(p)[1] >= first("pool", p).a[1]) {
                return 4;
            }
            if (kind == 3 && !numbered("ticket", t).flag && tooManyPupils(a)) {
                return 5;
            }
            return passed("in", p) == 3 ? 6 : 0;
        }

        private boolean tooManyPupils(int c) {
            int pupils = 1;
            int teachers = 0;
            for (int t = 0; t < howMany("ticket"); t++) {
                Event ticket = numbered("ticket", t);
                if (ticket.a[1] == 3 && ticket.a[2] == c && isIn(t)) {
                    teachers += ticket.flag ? 1 : 0;
                    pupils += ticket.flag ? 0 : 1;
                }
            }
            return pupils > teachers * numbered("club", c).a[4];
        }

        private int beyond(int t) {
            int m = lastIn(t).minute;
            int n = kind(t) == 1 ? numbered("ticket", t).a[2] : clubMinutes(t);
            return now - m - n + 1;
        }

        /** The minutes to the end of a ticket's club, as it stood when the ticket came in last. */
        private int clubMinutes(int t) {
            int c = numbered("ticket", t).a[2];
            Event in = lastIn(t);
            int end = numbered("club", c).a[3];
            for (Event e : history) {
                if (e == in) {
                    break;
                }
                end = e.is("leave") && e.a[0] == c ? e.minute : end;
            }
            return end - in.minute;
        }

        private boolean isTimed(int t) {
            return kind(t) >= 1 && kind(t) <= 3;
        }

        private int owes(int t) {
            int coins = 0;
            if (isTimed(t)) {
                for (int left = beyond(t); left > 0; left -= 15) {
                    coins += 20;
                }
            }
            return coins;
        }

        private int owedInAll(int t) {
            int coins = 0;
            for (Event e : history) {
                coins += e.is("out") && (t < 0 || e.a[0] == t) ? e.answer : 0;
            }
            return coins;
        }

        private int post(int p, int k, int t) {
            if (!isPool(p) || k < 0 || k >= first("pool", p).a[3] || t < 0 || t >= howMany("ticket")
                    || kind(t) != 5 || poolOfTicket(t) != p || !isIn(t)) {
                return -2;
            }
            for (int other = 0; other < 3; other++) {
                if (stands(p, other, now)[0] == t) {
                    return -2;
                }
            }
            if (now - leftAt(t) < 20) {
                return -2;
            }
            int before = stands(p, k, now)[0];
            note("post", before, false, p, k, t);
            return before;
        }

        private int leftAt(int t) {
            int left = -1000;
            boolean stood = false;
            for (Event e : history) {
                if (e.is("post") && e.a[2] == t) {
                    stood = true;
                } else if (stood && (e.is("post") && e.answer == t || e.is("out") && e.a[0] == t)) {
                    left = e.minute;
                    stood = false;
                }
            }
            return left;
        }

        /** Of a locker: -1 at the door, the ticket with the key, or -100 less the ticket whose bag is lost in it. */
        private int locker(int l) {
            int state = -1;
            for (Event e : history) {
                if (e.is("key") && e.answer == l) {
                    state = e.a[0];
                } else if (e.is("give") && e.answer == l || e.is("mend") && e.a[0] == l) {
                    state = -1;
                } else if (e.is("out") && e.a[0] == state) {
                    state = -100 - state;
                }
            }
            return state;
        }

        private int lockerOf(int t) {
            for (int l = 0; l < 30; l++) {
                if (locker(l) == t) {
                    return l;
                }
            }
            return -1;
        }

        private int key(int t) {
            if (!isIn(t) || lockerOf(t) != -1) {
                return -1;
            }
            for (int l = 0; l < 30; l++) {
                if (locker(l) == -1) {
                    note("key", l, false, t);
                    return l;
                }
            }
            return -1;
        }

        private int lockersBy(boolean lost) {
            int n = 0;
            for (int l = 0; l < 30; l++) {
                n += (lost ? locker(l) <= -100 : locker(l) >= 0) ? 1 : 0;
            }
            return n;
        }

        private int[] prices() {
            int[] prices = new int[24];
            java.util.Arrays.fill(prices, 1);
            for (Event e : history) {
                if (e.is("price")) {
                    prices[e.a[0]] = e.a[1];
                }
            }
            return prices;
        }

        private static int cheapest(int[] prices, int from, int hours) {
            int[] rest = java.util.Arrays.copyOfRange(prices, from, 24);
            java.util.Arrays.sort(rest);
            if (hours > rest.length) {
                return 1000000;
            }
            int sum = 0;
            for (int i = 0; i < hours; i++) {
                sum += rest[i];
            }
            return sum;
        }

        /** Hour by hour: it is taken if the least sum can be met with it. */
        private void takeHours(int hours) {
            int[] prices = prices();
            turnHours = new int[24];
            turnSum = cheapest(prices, 0, hours);
            int left = turnSum;
            int need = hours;
            for (int h = 0; h < 24; h++) {
                if (need > 0 && prices[h] + cheapest(prices, h + 1, need - 1) == left) {
                    turnHours[h] = 1;
                    left -= prices[h];
                    need--;
                }
            }
        }

        private int turn(int p, int heads) {
            int[] pump = null;
            for (Event e : history) {
                pump = e.is("pump") && e.a[0] == p ? e.a : pump;
            }
            if (pump == null || heads < 0 || heads > 1000) {
                return -1;
            }
            for (long hours = 1; hours <= 24; hours++) {
                if (pump[2] * hours * 100 >= (long) pump[1] * (100 + heads)) {
                    takeHours((int) hours);
                    return (int) hours;
                }
            }
            return 25;
        }

        private int freeLanes(int p) {
            int n = 0;
            for (int lane = 0; lane < first("pool", p).a[2]; lane++) {
                boolean free = true;
                for (int c = 0; c < howMany("club"); c++) {
                    Event club = numbered("club", c);
                    free &= !(club.a[0] == p && clubHas(c, now) && (club.a[1] >> lane & 1) == 1);
                }
                n += free ? 1 : 0;
            }
            return n;
        }

        private int club(int[] a) {
            if (howMany("club") == 20 || !isPool(a[0]) || a[1] < 1 || a[1] >= 1 << first("pool", a[0]).a[2]
                    || a[2] < 0 || a[2] > 1439 || a[3] <= a[2] || a[3] > 1440 || a[4] < 0 || a[4] > 30) {
                return -1;
            }
            for (int c = 0; c < howMany("club"); c++) {
                Event other = numbered("club", c);
                for (int m = a[2]; m < a[3]; m++) {
                    if (other.a[0] == a[0] && (other.a[1] & a[1]) != 0 && clubHas(c, m)) {
                        clash = c;
                        return -1;
                    }
                }
            }
            note("club", 0, false, a);
            return howMany("club") - 1;
        }

        private int ticket(int[] a, boolean flag) {
            if (howMany("ticket") == 200 || !isPool(a[0]) || a[1] < 0 || a[1] > 5
                    || a[1] == 1 && (a[2] < 15 || a[2] > 240)) {
                return -1;
            }
            if (a[1] == 2 || a[1] == 3) {
                if (a[2] < 0 || a[2] >= howMany("club")) {
                    return -1;
                }
                Event club = numbered("club", a[2]);
                if (club.a[0] != a[0] || (club.a[4] > 0) != (a[1] == 3)) {
                    return -1;
                }
            }
            note("ticket", 0, flag, a);
            return howMany("ticket") - 1;
        }

        private int count(int p, int what) {
            switch (what) {
                case 0: return span(p)[0];
                case 1: return span(p)[1];
                case 2: return inTruth(p, false);
                case 3: return inTruth(p, true);
                case 4: return first("pool", p).a[1];
                case 5: return freeLanes(p);
                case 6: return filled(p, now);
                case 7: return eyeOn(p) ? 1 : 0;
                default: return -1;
            }
        }

        private int told(int t, int what) {
            int times = 0;
            for (Event e : history) {
                times += e.is("in") && e.a[0] == t ? 1 : 0;
            }
            switch (what) {
                case 0: return poolOfTicket(t);
                case 1: return kind(t);
                case 2: return times == 0 ? -1 : lastIn(t).minute;
                case 3: return isIn(t) ? 1 : 0;
                case 4: return lockerOf(t);
                case 5: return owedInAll(t);
                case 6: return times;
                case 7: return isIn(t) && isTimed(t) ? -beyond(t) : 0;
                default: return -1;
            }
        }

        private int all(int what) {
            switch (what) {
                case 0: return now;
                case 1: return howMany("ticket");
                case 2: return howMany("club");
                case 3: return lockersBy(true);
                case 4: return owedInAll(-1);
                case 5: return inTruth(-1, false);
                case 6: return lockersBy(false);
                default: return -1;
            }
        }

        private int shutMinutes(int p) {
            int n = 0;
            for (int m = 0; m < now; m++) {
                n += reasons(p, m) != 0 ? 1 : 0;
            }
            return n;
        }

        private int measure(int p, int thing, float v) {
            if (!isPool(p) || thing < 0 || thing > 2) {
                return -200001;
            }
            if (Float.isNaN(v) || v > 1000 || v < -1000) {
                return -200000;
            }
            int hundredths = (int) (v * 100);
            note("measure", hundredths, false, p, thing);
            return hundredths;
        }

        private int noteIf(boolean holds, String what, boolean flag, int... a) {
            if (holds) {
                note(what, 0, flag, a);
            }
            return holds ? 1 : 0;
        }

        private int ofTicket(String name, int t, int what) {
            if (t < 0 || t >= howMany("ticket")) {
                return -1;
            }
            int l = lockerOf(t);
            switch (name) {
                case "may": return may(t);
                case "in": {
                    int reason = may(t);
                    noteIf(reason == 0, "in", false, t);
                    return reason;
                }
                case "out": {
                    if (!isIn(t)) {
                        return -1;
                    }
                    if (passed("out", poolOfTicket(t)) == 3) {
                        return -2;
                    }
                    int coins = owes(t);
                    note("out", coins, false, t);
                    return coins;
                }
                case "key": return key(t);
                case "give": {
                    if (l >= 0) {
                        note("give", l, false, t);
                    }
                    return l;
                }
                default: return told(t, what);
            }
        }

        private int ofPool(String name, int[] a, boolean flag) {
            int p = a[0];
            boolean there = isPool(p);
            switch (name) {
                case "eye": return noteIf(there && eyeOn(p) != flag, "eye", flag, p);
                case "bounds": return noteIf(there && a[1] >= 0 && a[1] <= 2 && a[2] >= -100000 && a[3] <= 100000
                        && a[2] <= a[3], "bounds", false, a);
                case "put": return noteIf(there && a[1] >= 1 && a[1] <= 240, "put", false, a);
                case "pump": return noteIf(there && a[1] >= 1 && a[1] <= 100000 && a[2] >= 1 && a[2] <= 10000,
                        "pump", false, a);
                default: break;
            }
            if (!there) {
                return -1;
            }
            switch (name) {
                case "hand": {
                    note("hand", inTruth(p, false), false, p);
                    return inTruth(p, false);
                }
                case "count": return count(p, a[1]);
                case "shut": return reasons(p, now);
                case "minutes": return shutMinutes(p);
                case "turn": return turn(p, a[1]);
                default: return a[1] < 0 || a[1] >= first("pool", p).a[3] ? -1 : stands(p, a[1], now)[0];
            }
        }

        private int ofLocker(String name, int l) {
            if (l < 0 || l > 29) {
                return name.equals("mend") ? -1 : -3;
            }
            int state = locker(l);
            if (name.equals("locker")) {
                return state <= -100 ? -2 : state;
            }
            noteIf(state <= -100, "mend", false, l);
            return state <= -100 ? -100 - state : -1;
        }

        private int hour(int what) {
            if (turnHours == null || what < 0 || what > 24) {
                return -1;
            }
            return what == 24 ? turnSum : turnHours[what];
        }

        private int go(int n) {
            if (n < 1 || n > 240 || now + n > 1439) {
                return -1;
            }
            now += n;
            return now;
        }

        long answer(String name, int[] a, float v, boolean flag) {
            switch (name) {
                case "pool": return noteIf(now == 0 && a[0] >= 0 && a[0] <= 3 && !isPool(a[0]) && a[1] >= 1 && a[1] <= 200
                        && a[2] >= 1 && a[2] <= 8 && a[3] >= 0 && a[3] <= 3, "pool", false, a);
                case "go": return go(a[0]);
                case "ticket": return ticket(a, flag);
                case "club": return club(a);
                case "clash": return clash;
                case "leave": return noteIf(a[0] >= 0 && a[0] < howMany("club") && now < clubEnd(a[0]), "leave", false, a);
                case "may": case "in": case "out": case "key": case "give": return ofTicket(name, a[0], 0);
                case "told": return ofTicket(name, a[0], a[1]);
                case "measure": return measure(a[0], a[1], v);
                case "post": return post(a[0], a[1], a[2]);
                case "mend": case "locker": return ofLocker(name, a[0]);
                case "price": return noteIf(a[0] >= 0 && a[0] <= 23 && a[1] >= 0 && a[1] <= 10000, "price", false, a);
                case "hour": return hour(a[0]);
                case "all": return all(a[0]);
                default: return ofPool(name, a, flag);
            }
        }
    }
}
