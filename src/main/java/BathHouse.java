/** A town bath through one day; ../shared/DOC.md says what each call answers. */
public final class BathHouse {
    public static final int NONE = -1;

    private static final int REFUSED = -2;
    private static final int POOLS = 4;
    private static final int MOST_TICKETS = 200;
    private static final int MOST_CLUBS = 20;
    private static final int LOCKERS = 30;
    private static final int THINGS = 3;
    private static final int HOURS = 24;

    private static final int DAY_LENGTH = 1440;
    private static final int LONGEST_STEP = 240;
    private static final int DOOR_LIMIT = 3;

    private static final int HOUR_KIND = 1;
    private static final int CLUB_KIND = 2;
    private static final int SCHOOL_KIND = 3;
    private static final int SEASON_KIND = 4;
    private static final int WATCHER_KIND = 5;

    private static final int UNMEASURED_REASON = 8;
    private static final int PUT_REASON = 16;
    private static final int POST_REASON = 32;

    private static final int MEASURE_LASTS = 120;
    private static final int WATCH_LASTS = 60;
    private static final int WATCHER_RESTS = 20;
    private static final int QUARTER = 15;
    private static final int QUARTER_COINS = 20;
    private static final int HIGHEST_BOUND = 100000;
    private static final int NOT_MEASURED = -200000;
    private static final int NO_SUCH_THING = -200001;

    private final Pool[] pools = new Pool[POOLS];
    private final Ticket[] tickets = new Ticket[MOST_TICKETS];
    private final Club[] clubs = new Club[MOST_CLUBS];
    private final Lockers lockers = new Lockers();
    private final PumpHours pumpHours = new PumpHours();
    private int now;
    private int ticketCount;
    private int clubCount;
    private int clashed = NONE;
    private int owedInAll;

    public BathHouse() {
    }

    // The day, pools, tickets and clubs

    public boolean pool(int p, int heads, int lanes, int posts) {
        if (now != 0 || !isWithin(p, 0, POOLS - 1) || pools[p] != null) {
            return false;
        }
        if (!isWithin(heads, 1, 200) || !isWithin(lanes, 1, 8) || !isWithin(posts, 0, 3)) {
            return false;
        }
        pools[p] = new Pool(p, heads, lanes, posts);
        return true;
    }

    public int go(int n) {
        if (!isWithin(n, 1, LONGEST_STEP) || now + n >= DAY_LENGTH) {
            return NONE;
        }
        for (int i = 0; i < n; i++) {
            endMinute();
            now++;
        }
        return now;
    }

    public int ticket(int p, int kind, int a, boolean teacher) {
        Pool pool = poolOf(p);
        if (ticketCount >= MOST_TICKETS || pool == null || !isTicketSold(pool, kind, a)) {
            return NONE;
        }
        int number = ticketCount;
        Club club = isClubKind(kind) ? clubOf(a) : null;
        tickets[number] = new Ticket(number, pool, kind, a, club, teacher);
        ticketCount++;
        return number;
    }

    public int club(int p, int lanes, int from, int to, int pupils) {
        Pool pool = poolOf(p);
        if (clubCount >= MOST_CLUBS || pool == null || !pool.hasLanes(lanes)
                || !isWithin(from, 0, DAY_LENGTH - 1) || to <= from || to > DAY_LENGTH
                || !isWithin(pupils, 0, 30)) {
            return NONE;
        }
        Club club = new Club(pool, lanes, from, to, pupils);
        int other = lowestClash(club);
        if (other != NONE) {
            clashed = other;
            return NONE;
        }
        int number = clubCount;
        clubs[number] = club;
        clubCount++;
        return number;
    }

    public int clash() {
        return clashed;
    }

    public boolean leave(int c) {
        Club club = clubOf(c);
        if (club == null || now >= club.to) {
            return false;
        }
        // One that had not begun then ends ahead of its first minute, so that it is never there.
        club.to = now;
        return true;
    }

    // The door

    public int may(int t) {
        Ticket ticket = ticketOf(t);
        return ticket == null ? NONE : reasonAgainst(ticket);
    }

    public int in(int t) {
        Ticket ticket = ticketOf(t);
        if (ticket == null) {
            return NONE;
        }
        int reason = reasonAgainst(ticket);
        if (reason == 0) {
            ticket.comeIn(now);
            ticket.pool.letIn(ticket);
        }
        return reason;
    }

    public int out(int t) {
        Ticket ticket = ticketOf(t);
        if (ticket == null || !ticket.isIn) {
            return NONE;
        }
        if (ticket.pool.door.wentOut >= DOOR_LIMIT) {
            return REFUSED;
        }
        int coins = ticket.owes(now);
        owedInAll += coins;
        ticket.goOut(now, coins);
        ticket.pool.letOut(ticket);
        lockers.lose(ticket.locker);
        ticket.locker = NONE;
        return coins;
    }

    public boolean eye(int p, boolean on) {
        Pool pool = poolOf(p);
        if (pool == null || pool.door.isOn == on) {
            return false;
        }
        pool.door.turnEye(on);
        return true;
    }

    public int hand(int p) {
        Pool pool = poolOf(p);
        if (pool == null) {
            return NONE;
        }
        pool.door.startFrom(pool.inside, pool.inside);
        return pool.inside;
    }

    public int count(int p, int what) {
        Pool pool = poolOf(p);
        if (pool == null) {
            return NONE;
        }
        switch (what) {
            case 0: return pool.door.leastNow();
            case 1: return pool.door.mostNow();
            case 2: return pool.inside;
            case 3: return pool.watchersInside;
            case 4: return pool.heads;
            case 5: return freeLanes(pool);
            case 6: return pool.filledPosts(now);
            case 7: return pool.door.isOn ? 1 : 0;
            default: return NONE;
        }
    }

    // The water and the posts

    public boolean bounds(int p, int thing, int low, int high) {
        Thing found = thingOf(p, thing);
        if (found == null || low < -HIGHEST_BOUND || high > HIGHEST_BOUND || low > high) {
            return false;
        }
        found.low = low;
        found.high = high;
        return true;
    }

    public int measure(int p, int thing, float v) {
        Thing found = thingOf(p, thing);
        if (found == null) {
            return NO_SUCH_THING;
        }
        if (v != v || v > 1000f || v < -1000f) {
            return NOT_MEASURED;
        }
        int hundredths = (int) (v * 100f);
        found.takeMeasure(hundredths, now);
        return hundredths;
    }

    public boolean put(int p, int n) {
        Pool pool = poolOf(p);
        if (pool == null || !isWithin(n, 1, LONGEST_STEP)) {
            return false;
        }
        pool.putEnd = Math.max(pool.putEnd, now + n);
        return true;
    }

    public int shut(int p) {
        Pool pool = poolOf(p);
        return pool == null ? NONE : pool.reasonsIn(now);
    }

    public int minutes(int p) {
        Pool pool = poolOf(p);
        return pool == null ? NONE : pool.shutMinutes;
    }

    public int post(int p, int k, int t) {
        Post post = postOf(p, k);
        Ticket ticket = ticketOf(t);
        if (post == null || ticket == null || ticket.pool != poolOf(p) || !ticket.mayStand(now)) {
            return REFUSED;
        }
        Ticket before = post.watcher;
        if (before != null) {
            before.leavePost(now);
        }
        ticket.standAt(post, now);
        return numberOf(before);
    }

    public int watcher(int p, int k) {
        Post post = postOf(p, k);
        return post == null ? NONE : numberOf(post.watcher);
    }

    // Keys and lockers

    public int key(int t) {
        Ticket ticket = ticketOf(t);
        if (ticket == null || !ticket.isIn || ticket.locker != NONE) {
            return NONE;
        }
        ticket.locker = lockers.takeLowest(t);
        return ticket.locker;
    }

    public int give(int t) {
        Ticket ticket = ticketOf(t);
        if (ticket == null) {
            return NONE;
        }
        int locker = ticket.locker;
        lockers.hangKey(locker);
        ticket.locker = NONE;
        return locker;
    }

    public int mend(int l) {
        if (!Lockers.isLocker(l) || !lockers.isLost[l]) {
            return NONE;
        }
        int owner = lockers.owner[l];
        lockers.hangKey(l);
        return owner;
    }

    public int locker(int l) {
        if (!Lockers.isLocker(l)) {
            return -3;
        }
        return lockers.isLost[l] ? REFUSED : lockers.owner[l];
    }

    public int told(int t, int what) {
        Ticket ticket = ticketOf(t);
        if (ticket == null) {
            return NONE;
        }
        switch (what) {
            case 0: return ticket.pool.number;
            case 1: return ticket.kind;
            case 2: return ticket.cameAt;
            case 3: return ticket.isIn ? 1 : 0;
            case 4: return ticket.locker;
            case 5: return ticket.owed;
            case 6: return ticket.timesIn;
            case 7: return ticket.minutesLeft(now);
            default: return NONE;
        }
    }

    // The pump

    public boolean pump(int p, int volume, int flow) {
        Pool pool = poolOf(p);
        if (pool == null || !isWithin(volume, 1, 100000) || !isWithin(flow, 1, 10000)) {
            return false;
        }
        pool.volume = volume;
        pool.flow = flow;
        return true;
    }

    public boolean price(int hour, int coins) {
        if (!isWithin(hour, 0, HOURS - 1) || !isWithin(coins, 0, 10000)) {
            return false;
        }
        pumpHours.prices[hour] = coins;
        return true;
    }

    public int turn(int p, int heads) {
        Pool pool = poolOf(p);
        if (pool == null || pool.flow < 1 || !isWithin(heads, 0, 1000)) {
            return NONE;
        }
        int hours = hoursNeeded(pool.volume, pool.flow, heads);
        if (hours > HOURS) {
            return HOURS + 1;
        }
        pumpHours.takeCheapest(hours);
        return hours;
    }

    public int hour(int what) {
        if (!pumpHours.isChosen || !isWithin(what, 0, HOURS)) {
            return NONE;
        }
        if (what == HOURS) {
            return pumpHours.sum;
        }
        return pumpHours.isTaken[what] ? 1 : 0;
    }

    public int all(int what) {
        switch (what) {
            case 0: return now;
            case 1: return ticketCount;
            case 2: return clubCount;
            case 3: return lockers.lostOnes();
            case 4: return owedInAll;
            case 5: return insideAllPools();
            case 6: return lockers.keysOut();
            default: return NONE;
        }
    }

    // What the calls above share

    private static boolean isWithin(int x, int low, int high) {
        return x >= low && x <= high;
    }

    private Pool poolOf(int p) {
        return isWithin(p, 0, POOLS - 1) ? pools[p] : null;
    }

    private Ticket ticketOf(int t) {
        return isWithin(t, 0, MOST_TICKETS - 1) ? tickets[t] : null;
    }

    private Club clubOf(int c) {
        return isWithin(c, 0, MOST_CLUBS - 1) ? clubs[c] : null;
    }

    private Thing thingOf(int p, int thing) {
        Pool pool = poolOf(p);
        return pool != null && isWithin(thing, 0, THINGS - 1) ? pool.things[thing] : null;
    }

    private Post postOf(int p, int k) {
        Pool pool = poolOf(p);
        return pool != null && isWithin(k, 0, pool.posts.length - 1) ? pool.posts[k] : null;
    }

    private static int numberOf(Ticket ticket) {
        return ticket == null ? NONE : ticket.number;
    }

    private void endMinute() {
        for (int p = 0; p < POOLS; p++) {
            Pool pool = pools[p];
            if (pool != null) {
                pool.endMinute(now);
            }
        }
    }

    private static boolean isClubKind(int kind) {
        return kind == CLUB_KIND || kind == SCHOOL_KIND;
    }

    private boolean isTicketSold(Pool pool, int kind, int a) {
        if (kind == HOUR_KIND) {
            return isWithin(a, 15, 240);
        }
        if (isClubKind(kind)) {
            Club club = clubOf(a);
            return club != null && club.pool == pool && club.isSchool() == (kind == SCHOOL_KIND);
        }
        return isWithin(kind, 0, WATCHER_KIND);
    }

    private int lowestClash(Club club) {
        for (int c = 0; c < MOST_CLUBS; c++) {
            Club other = clubs[c];
            if (other != null && other.clashesWith(club)) {
                return c;
            }
        }
        return NONE;
    }

    private int freeLanes(Pool pool) {
        int taken = 0;
        for (int c = 0; c < MOST_CLUBS; c++) {
            Club club = clubs[c];
            if (club != null && club.pool == pool && club.isThere(now)) {
                taken |= club.lanes;
            }
        }
        return pool.lanes - Integer.bitCount(taken);
    }

    private int reasonAgainst(Ticket ticket) {
        if (ticket.isIn) {
            return 1;
        }
        int reason = ticket.kind == WATCHER_KIND ? 0 : reasonAgainstHead(ticket);
        if (reason != 0) {
            return reason;
        }
        return ticket.pool.door.cameIn >= DOOR_LIMIT ? 6 : 0;
    }

    private int reasonAgainstHead(Ticket ticket) {
        Pool pool = ticket.pool;
        if (!ticket.isItsTime(now)) {
            return 2;
        }
        if (pool.reasonsIn(now) != 0) {
            return 3;
        }
        if (pool.door.mostNow() >= pool.heads) {
            return 4;
        }
        return ticket.lacksTeacher() ? 5 : 0;
    }

    private static int hoursNeeded(int volume, int flow, int heads) {
        // Both sides times 100, so that no hundredth is cut off.
        int need = volume * (100 + heads);
        int anHour = flow * 100;
        return anHour < 1 ? HOURS + 1 : (need + anHour - 1) / anHour;
    }

    private int insideAllPools() {
        int sum = 0;
        for (int p = 0; p < POOLS; p++) {
            Pool pool = pools[p];
            sum += pool == null ? 0 : pool.inside;
        }
        return sum;
    }

    /** A pool: who is in it in truth, its door, its water, its posts and its pump. */
    private static final class Pool {
        final int number;
        final int heads;
        final int lanes;
        final Post[] posts;
        final Thing[] things = new Thing[THINGS];
        final Door door = new Door();
        int inside;
        int watchersInside;
        int putEnd;
        int shutMinutes;
        int volume;
        int flow;

        Pool(int number, int heads, int lanes, int postCount) {
            this.number = number;
            this.heads = heads;
            this.lanes = lanes;
            posts = new Post[Math.max(0, postCount)];
            for (int k = 0; k < posts.length; k++) {
                posts[k] = new Post();
            }
            for (int i = 0; i < THINGS; i++) {
                things[i] = new Thing();
            }
        }

        boolean hasLanes(int bits) {
            return bits > 0 && bits < 1 << lanes;
        }

        void letIn(Ticket ticket) {
            inside++;
            watchersInside += ticket.kind == WATCHER_KIND ? 1 : 0;
            door.cameIn++;
            door.seen++;
        }

        void letOut(Ticket ticket) {
            inside--;
            watchersInside -= ticket.kind == WATCHER_KIND ? 1 : 0;
            door.wentOut++;
            door.seen--;
        }

        int filledPosts(int minute) {
            int filled = 0;
            for (int k = 0; k < posts.length; k++) {
                filled += posts[k].isFilled(minute) ? 1 : 0;
            }
            return filled;
        }

        int reasonsIn(int minute) {
            int reasons = minute < putEnd ? PUT_REASON : 0;
            for (int i = 0; i < THINGS; i++) {
                reasons |= things[i].isRight() ? 0 : 1 << i;
                reasons |= things[i].isStale(minute) ? UNMEASURED_REASON : 0;
            }
            reasons |= filledPosts(minute) < posts.length ? POST_REASON : 0;
            return reasons;
        }

        void endMinute(int minute) {
            shutMinutes += reasonsIn(minute) != 0 ? 1 : 0;
            door.endMinute();
        }
    }

    /** A pool's door: its eye and the span, kept as of where the minute or the latest count by hand began. */
    private static final class Door {
        boolean isOn = true;
        boolean wasOff;
        int least;
        int most;
        int seen;
        // A count by hand begins the span anew, but the door's limit is for the whole minute.
        int cameIn;
        int wentOut;

        void turnEye(boolean on) {
            isOn = on;
            // Turned off or on, it is off at some time of this minute.
            wasOff = true;
        }

        int leastNow() {
            return Math.max(0, wasOff ? least - DOOR_LIMIT : least + seen);
        }

        int mostNow() {
            return wasOff ? most + DOOR_LIMIT : most + seen;
        }

        void startFrom(int newLeast, int newMost) {
            least = newLeast;
            most = newMost;
            seen = 0;
            wasOff = !isOn;
        }

        void endMinute() {
            startFrom(leastNow(), mostNow());
            cameIn = 0;
            wentOut = 0;
        }
    }

    /** One of the things that are measured in a pool's water. */
    private static final class Thing {
        int low = 0;
        int high = 100;
        int latest;
        int measuredAt;
        boolean isMeasured;

        void takeMeasure(int hundredths, int minute) {
            latest = hundredths;
            measuredAt = minute;
            isMeasured = true;
        }

        boolean isRight() {
            // Ahead of its first measure it counts as right, whatever its bounds have become.
            return !isMeasured || latest >= low && latest <= high;
        }

        boolean isStale(int minute) {
            return minute - measuredAt >= MEASURE_LASTS;
        }
    }

    /** A post and the watcher who stands there. */
    private static final class Post {
        Ticket watcher;
        int since;

        boolean isFilled(int minute) {
            return watcher != null && minute - since < WATCH_LASTS;
        }
    }

    /** A club or school: the lanes that it has, from its first minute to ahead of its end. */
    private static final class Club {
        final Pool pool;
        final int lanes;
        final int from;
        final int pupils;
        int to;
        int pupilsIn;
        int teachersIn;

        Club(Pool pool, int lanes, int from, int to, int pupils) {
            this.pool = pool;
            this.lanes = lanes;
            this.from = from;
            this.to = to;
            this.pupils = pupils;
        }

        boolean isSchool() {
            return pupils > 0;
        }

        boolean isThere(int minute) {
            return minute >= from && minute < to;
        }

        boolean clashesWith(Club other) {
            return pool == other.pool && (lanes & other.lanes) != 0
                    && Math.max(from, other.from) < Math.min(to, other.to);
        }

        void pass(boolean isTeacher, int step) {
            if (isTeacher) {
                teachersIn += step;
            } else {
                pupilsIn += step;
            }
        }
    }

    /** A ticket; its club is null unless it is of the kind that has one. */
    private static final class Ticket {
        final int number;
        final Pool pool;
        final int kind;
        final int minutes;
        final Club club;
        final boolean isTeacher;
        boolean isIn;
        int cameAt = NONE;
        int cameWith;
        int timesIn;
        int owed;
        int locker = NONE;
        Post post;
        // Nobody has left a post at first: as if it were long enough ago.
        int leftPostAt = -WATCHER_RESTS;

        Ticket(int number, Pool pool, int kind, int minutes, Club club, boolean isTeacher) {
            this.number = number;
            this.pool = pool;
            this.kind = kind;
            this.minutes = minutes;
            this.club = club;
            this.isTeacher = isTeacher;
        }

        boolean isItsTime(int now) {
            if (club != null) {
                return club.isThere(now);
            }
            return kind != SEASON_KIND || timesIn == 0;
        }

        boolean lacksTeacher() {
            return kind == SCHOOL_KIND && club != null && !isTeacher
                    && club.pupilsIn + 1 > club.pupils * club.teachersIn;
        }

        void comeIn(int now) {
            isIn = true;
            cameAt = now;
            // Kept from here on: a club that is given up later takes nothing from those that are in.
            cameWith = club != null ? club.to - now : minutes;
            timesIn++;
            if (club != null) {
                club.pass(isTeacher, 1);
            }
        }

        void goOut(int now, int coins) {
            isIn = false;
            owed += coins;
            if (club != null) {
                club.pass(isTeacher, -1);
            }
            leavePost(now);
        }

        int minutesLeft(int now) {
            if (!isIn || kind != HOUR_KIND && club == null) {
                return 0;
            }
            return cameAt + cameWith - now - 1;
        }

        int owes(int now) {
            int beyond = -minutesLeft(now);
            return beyond > 0 ? (beyond + QUARTER - 1) / QUARTER * QUARTER_COINS : 0;
        }

        boolean mayStand(int now) {
            return kind == WATCHER_KIND && isIn && post == null && now - leftPostAt >= WATCHER_RESTS;
        }

        void standAt(Post newPost, int now) {
            post = newPost;
            newPost.watcher = this;
            newPost.since = now;
        }

        void leavePost(int now) {
            if (post != null) {
                post.watcher = null;
                post = null;
                leftPostAt = now;
            }
        }
    }

    /** The lockers: whose bag is in each, none where the key is at the door. */
    private static final class Lockers {
        final int[] owner = new int[LOCKERS];
        final boolean[] isLost = new boolean[LOCKERS];

        Lockers() {
            for (int l = 0; l < LOCKERS; l++) {
                owner[l] = NONE;
            }
        }

        static boolean isLocker(int l) {
            return l >= 0 && l < LOCKERS;
        }

        int takeLowest(int ticket) {
            for (int l = 0; l < LOCKERS; l++) {
                if (owner[l] == NONE) {
                    owner[l] = ticket;
                    return l;
                }
            }
            return NONE;
        }

        void hangKey(int l) {
            if (isLocker(l)) {
                owner[l] = NONE;
                isLost[l] = false;
            }
        }

        void lose(int l) {
            if (isLocker(l)) {
                isLost[l] = true;
            }
        }

        int lostOnes() {
            int lost = 0;
            for (int l = 0; l < LOCKERS; l++) {
                lost += isLost[l] ? 1 : 0;
            }
            return lost;
        }

        int keysOut() {
            int keys = 0;
            for (int l = 0; l < LOCKERS; l++) {
                keys += owner[l] != NONE && !isLost[l] ? 1 : 0;
            }
            return keys;
        }
    }

    /** The prices of the pump's hours, and those that the latest turn took. */
    private static final class PumpHours {
        final int[] prices = new int[HOURS];
        final boolean[] isTaken = new boolean[HOURS];
        boolean isChosen;
        int sum;

        PumpHours() {
            for (int h = 0; h < HOURS; h++) {
                prices[h] = 1;
            }
        }

        void takeCheapest(int hours) {
            isChosen = true;
            sum = 0;
            for (int h = 0; h < HOURS; h++) {
                isTaken[h] = false;
            }
            for (int i = 0; i < hours; i++) {
                takeNext();
            }
        }

        private void takeNext() {
            int best = NONE;
            for (int h = 0; h < HOURS; h++) {
                if (!isTaken[h] && (best == NONE || prices[h] < prices[best])) {
                    best = h;
                }
            }
            if (best != NONE) {
                isTaken[best] = true;
                sum += prices[best];
            }
        }
    }
}
