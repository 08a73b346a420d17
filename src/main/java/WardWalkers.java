/** Keys without locks, locks without doors, and walkers between them; ../shared/DOC.md says what each call answers. */
public final class WardWalkers {
    public static final int NONE = -1, UNKNOWN = -2, OUTSIDE = -3, NOT = -4, FULL = -5, NULL = -11, CAST = -12, INDEX = -13, SIZE = -14, STORE = -15, ZERO = -16;

    private static final int MOST_KEYS = 7;
    private static final int KEY_SETS = 128;
    private static final int MOST_LOCKS = 7;
    private static final int LOCK_SETS = 128;
    private static final int MOST_WALKERS = 3;
    private static final int WARDS = 9;
    private static final int ALL_WARDS = 511;
    private static final int FIRST_DARK = 60;
    private static final int LAST_DAY = 999;
    private static final int TURNS_THAT_BREAK = 3;
    private static final int MINUTES_AT_LOCK = 2;
    private static final int MOST_PAST = 8;
    private static final int MOST_KEPT = 2;
    private static final int MOST_SEEN = 6;
    private static final int MOST_TWINS = 21;
    private static final int MOST_RACKS = 4;
    private static final int MOST_THINGS = 24;
    private static final int BYTES = 0;
    private static final int SHORTS = 1;
    private static final int INTS = 2;
    private static final int LONGS = 3;
    private static final int BOOLEANS = 4;
    private static final long PLAIN_THING = 1000000000000L;
    private static final long REST_BY = 1000003L;
    private static final long LARGE_THING = 2000000000000L;
    private static final long THING_BELOW = 3000000000000L;
    private static final long SHARE_MORE = 100000000000L;

    // by how many there are and how many of them are drawn
    private static final int[] WAYS = {
        1, 0, 0, 0, 0, 0, 0, 0,
        1, 1, 0, 0, 0, 0, 0, 0,
        1, 2, 1, 0, 0, 0, 0, 0,
        1, 3, 3, 1, 0, 0, 0, 0,
        1, 4, 6, 4, 1, 0, 0, 0,
        1, 5, 10, 10, 5, 1, 0, 0,
        1, 6, 15, 20, 15, 6, 1, 0,
        1, 7, 21, 35, 35, 21, 7, 1,
    };

    private final Country country = new Country();
    private final Text text = new Text();
    private final Standing now = new Standing();
    private final Standing[] past = new Standing[MOST_PAST];
    private int pastNext;
    private int pastCount;
    private final Standing[] keptStandings = new Standing[MOST_KEPT];
    private final Text[] keptTexts = new Text[MOST_KEPT];
    private int keptSet;
    private final int[] seenLocks = new int[MOST_SEEN];
    private final int[] seenWent = new int[MOST_SEEN];
    private int seenCount;
    private final Planner planner = new Planner();
    private final Rack[] racks = new Rack[MOST_RACKS];

    public WardWalkers() {
        for (int i = 0; i < MOST_PAST; i++) {
            past[i] = new Standing();
        }
        for (int k = 0; k < MOST_KEPT; k++) {
            keptStandings[k] = new Standing();
            keptTexts[k] = new Text();
        }
        for (int r = 0; r < MOST_RACKS; r++) {
            racks[r] = new Rack();
        }
    }

    // ---- what is told

    public int write(int letter) {
        if (letter < 0 || letter > 255) {
            return OUTSIDE;
        }
        if (!text.hasPlace()) {
            return FULL;
        }
        text.add(letter);
        return text.length;
    }

    public int erase() {
        int had = text.length;
        text.length = 0;
        return had;
    }

    public int fault() {
        return text.readFor(country);
    }

    public int land() {
        if (text.readFor(country) != NONE) {
            return NOT;
        }
        for (int c = 0; c < text.clauses; c++) {
            tell(c);
        }
        text.length = 0;
        now.begin(country);
        seenCount = 0;
        keptSet = 0;
        pastCount = 0;
        return text.clauses;
    }

    public int key(int key, int what) {
        Key one = country.keyAt(key);
        if (one == null) {
            return UNKNOWN;
        }
        switch (what) {
            case 0: return one.kindNumber();
            case 1: return one.cut;
            case 2: return one.mark;
            case 3: return now.bentOf(key);
            case 4: return now.turnedOf(key);
            case 5: return one.edge(now.bentOf(key));
            case 6: return isBroken(key) ? 1 : 0;
            default: return OUTSIDE;
        }
    }

    public int lock(int lock, int what) {
        Lock one = country.lockAt(lock);
        if (one == null) {
            return UNKNOWN;
        }
        switch (what) {
            case 0: return one.place;
            case 1: return one.wanted;
            case 2: return one.play;
            case 3: return one.value;
            case 4: return now.isOpen(lock) ? 1 : 0;
            default: return OUTSIDE;
        }
    }

    public int walker(int walker, int what) {
        if (!country.hasWalker(walker)) {
            return UNKNOWN;
        }
        switch (what) {
            case 0: return now.placeOf(walker);
            case 1: return now.minuteOf(walker);
            default: return OUTSIDE;
        }
    }

    public int goes(int key, int lock, int what) {
        Key one = country.keyAt(key);
        Lock other = country.lockAt(lock);
        if (one == null || other == null) {
            return UNKNOWN;
        }
        int bent = now.bentOf(key);
        switch (what) {
            case 0: return other.lackingIn(one.edge(bent));
            case 1: return other.overIn(one.edge(bent));
            case 2: return other.letsIn(one, bent) ? 1 : 0;
            default: return OUTSIDE;
        }
    }

    public int as(int key, int kind) {
        Key one = country.keyAt(key);
        if (one == null) {
            return UNKNOWN;
        }
        if (kind < 0 || kind > 4) {
            return OUTSIDE;
        }
        return isOfKind(one, kind) ? one.room(3) : NOT;
    }

    // ---- what is done

    public int tries(int walker, int key, int lock) {
        Key one = country.keyAt(key);
        Lock other = country.lockAt(lock);
        if (one == null || other == null || !country.hasWalker(walker)) {
            return UNKNOWN;
        }
        int minute = now.minuteOf(walker) + minutesBetween(now.placeOf(walker), other.place) + MINUTES_AT_LOCK;
        if (isBroken(key) || now.isOpen(lock) || minute > country.dark) {
            return NOT;
        }
        remember();
        now.stand(walker, other.place, minute);
        int bent = now.bentOf(key);
        if (other.letsIn(one, bent)) {
            now.turn(key);
            now.open(lock, other.value);
            return 2;
        }
        if (other.lackingIn(one.edge(bent)) == 1 && !(one instanceof Master)) {
            now.bend(key);
            return 1;
        }
        return 0;
    }

    public int shut(int lock) {
        Lock one = country.lockAt(lock);
        if (one == null) {
            return UNKNOWN;
        }
        if (!now.isOpen(lock)) {
            return NOT;
        }
        remember();
        now.close(lock);
        return one.value;
    }

    public int mend(int key) {
        if (country.keyAt(key) == null) {
            return UNKNOWN;
        }
        int wear = now.bentOf(key) + now.turnedOf(key);
        if (wear == 0) {
            return NOT;
        }
        remember();
        now.restore(key);
        return wear;
    }

    public int day() {
        if (now.today >= LAST_DAY) {
            return FULL;
        }
        remember();
        now.nextDay();
        return now.today;
    }

    public int undo() {
        if (pastCount <= 0) {
            return NOT;
        }
        pastNext--;
        pastCount--;
        now.takeFrom(pastAt(pastNext));
        return pastCount;
    }

    public int keep(int k) {
        if (k < 0 || k >= MOST_KEPT) {
            return UNKNOWN;
        }
        keptStandings[k].takeFrom(now);
        keptTexts[k].takeLetters(text);
        keptSet |= 1 << k;
        return now.today;
    }

    public int back(int k) {
        if (k < 0 || k >= MOST_KEPT) {
            return UNKNOWN;
        }
        if ((keptSet >> k & 1) == 0) {
            return NOT;
        }
        now.takeFrom(keptStandings[k]);
        text.takeLetters(keptTexts[k]);
        pastCount = 0;
        return now.today;
    }

    // ---- foretold

    public int belongs(int key) {
        Key one = country.keyAt(key);
        return one == null ? UNKNOWN : locksFor(one, now.bentOf(key));
    }

    public int openers(int lock) {
        Lock one = country.lockAt(lock);
        return one == null ? UNKNOWN : keysFor(one);
    }

    public int twins(int i) {
        if (i < NONE || i >= MOST_TWINS) {
            return OUTSIDE;
        }
        int pairs = 0;
        for (int lesser = 0; lesser < country.keyCount; lesser++) {
            for (int other = lesser + 1; other < country.keyCount; other++) {
                if (areTwins(lesser, other)) {
                    if (pairs == i) {
                        return 10 * lesser + other;
                    }
                    pairs++;
                }
            }
        }
        return i == NONE ? pairs : NONE;
    }

    public int match(int lock) {
        if (lock != NONE && country.lockAt(lock) == null) {
            return UNKNOWN;
        }
        for (int l = 0; l < MOST_LOCKS; l++) {
            planner.takers[l] = usableKeysFor(l);
        }
        planner.pairUp();
        return lock == NONE ? planner.pairs : planner.keyFor(lock);
    }

    public int work(int n) {
        if (n < 1 || n > MOST_LOCKS) {
            return OUTSIDE;
        }
        int wanted = 0;
        for (int l = 0; l < country.lockCount; l++) {
            if (usableKeysFor(l) != 0) {
                wanted |= 1 << l;
            }
        }
        planner.startWork();
        for (int w = 0; w < country.walkerCount; w++) {
            planner.walkFrom(now.placeOf(w), now.minuteOf(w), wanted, country);
            planner.shareWith(wanted);
        }
        return planner.fewestFor(n);
    }

    // ---- what was seen

    public int seen(int lock, int went) {
        if (country.lockAt(lock) == null) {
            return UNKNOWN;
        }
        if (went < 0 || went > 1) {
            return OUTSIDE;
        }
        if (seenCount >= MOST_SEEN) {
            return FULL;
        }
        seenLocks[seenCount] = lock;
        seenWent[seenCount] = went;
        seenCount++;
        return seenCount;
    }

    public int forget() {
        int had = seenCount;
        seenCount = 0;
        return had;
    }

    public int cuts(int what) {
        if (what < 0 || what > 2) {
            return OUTSIDE;
        }
        int many = 0;
        int inEach = ALL_WARDS;
        int inSome = 0;
        for (int cut = 0; cut <= ALL_WARDS; cut++) {
            if (isCutAsSeen(cut)) {
                many++;
                inEach &= cut;
                inSome |= cut;
            }
        }
        if (what == 0 || many == 0) {
            return many;
        }
        return what == 1 ? inEach : inSome;
    }

    public int how(int key) {
        Key one = country.keyAt(key);
        if (one == null) {
            return UNKNOWN;
        }
        int times = 0;
        for (int bent = 0; bent < WARDS; bent++) {
            if (isKeyAsSeen(one, bent)) {
                times |= 1 << bent;
            }
        }
        return times;
    }

    public int odds(int keys, int lock, int m, int part) {
        Lock one = country.lockAt(lock);
        if (one == null || (keys & ~country.allKeys()) != 0) {
            return UNKNOWN;
        }
        if (m < 0 || m > MOST_KEYS || part < 0 || part > 1) {
            return OUTSIDE;
        }
        if (keys == 0) {
            return ZERO;
        }
        int many = Integer.bitCount(keys);
        int vain = Integer.bitCount(keys & ~keysFor(one));
        int drawn = Math.min(m, many);
        int ways = choose(many, drawn);
        return (int) lowest(ways - choose(vain, drawn), ways, part);
    }

    // ---- racks

    public int rack(int rack, int lane, int n) {
        Rack row = rackAt(rack);
        if (row == null) {
            return UNKNOWN;
        }
        if (!isLane(lane) || n > MOST_THINGS) {
            return OUTSIDE;
        }
        if (n < 0) {
            return SIZE;
        }
        row.begin(lane, n);
        return n;
    }

    public int hang(int rack, int lane, int i, long v) {
        Rack row = rackAt(rack);
        if (row == null) {
            return UNKNOWN;
        }
        if (!isLane(lane)) {
            return OUTSIDE;
        }
        if (row.isMissing()) {
            return NULL;
        }
        if (row.lane != lane) {
            return CAST;
        }
        if (!row.spans(i, 1)) {
            return INDEX;
        }
        row.put(i, v);
        return 1;
    }

    public long look(int rack, int i) {
        Rack row = rackAt(rack);
        if (row == null) {
            return UNKNOWN;
        }
        if (row.isMissing()) {
            return NULL;
        }
        if (!row.spans(i, 1)) {
            return INDEX;
        }
        long thing = row.thingAt(i);
        if (thing < 0) {
            return (-1 - thing) % REST_BY + THING_BELOW;
        }
        return thing <= PLAIN_THING ? thing : thing % REST_BY + LARGE_THING;
    }

    public int copy(int from, int i, int to, int j, int n) {
        Rack source = rackAt(from);
        Rack target = rackAt(to);
        if (source == null || target == null) {
            return UNKNOWN;
        }
        if (source.isMissing() || target.isMissing()) {
            return NULL;
        }
        if (source.lane != target.lane) {
            return STORE;
        }
        if (!source.spans(i, n) || !target.spans(j, n)) {
            return INDEX;
        }
        for (int step = 0; step < n; step++) {
            // within one rack a thing must be read before it is written over
            int t = i < j ? n - 1 - step : step;
            target.put(j + t, source.thingAt(i + t));
        }
        return n;
    }

    public int drop(int rack) {
        Rack row = rackAt(rack);
        if (row == null) {
            return UNKNOWN;
        }
        if (row.isMissing()) {
            return NULL;
        }
        row.lane = NONE;
        return row.size;
    }

    public long share(int rack, int part) {
        Rack row = rackAt(rack);
        if (row == null) {
            return UNKNOWN;
        }
        if (part < 0 || part > 1) {
            return OUTSIDE;
        }
        if (row.isMissing()) {
            return NULL;
        }
        if (row.lane != INTS) {
            return CAST;
        }
        if (row.size == 0) {
            return ZERO;
        }
        long told = lowest(row.together(), row.size, part);
        return part == 0 ? told + SHARE_MORE : told;
    }

    public int film(int key, int rack, int i) {
        Key one = country.keyAt(key);
        Rack row = rackAt(rack);
        if (one == null || row == null) {
            return UNKNOWN;
        }
        if (row.isMissing()) {
            return NULL;
        }
        if (row.lane != BOOLEANS) {
            return CAST;
        }
        if (!row.spans(i, country.lockCount)) {
            return INDEX;
        }
        int locks = locksFor(one, now.bentOf(key));
        for (int l = 0; l < country.lockCount; l++) {
            row.put(i + l, locks >> l & 1);
        }
        return country.lockCount;
    }

    public int count(int what) {
        switch (what) {
            case 0: return country.keyCount;
            case 1: return country.lockCount;
            case 2: return country.walkerCount;
            case 3: return country.dark;
            case 4: return now.today;
            case 5: return now.openSet;
            case 6: return brokenKeys();
            case 7: return now.found;
            case 8: return latestMinute();
            case 9: return seenCount;
            case 10: return racksThere();
            case 11: return pastCount;
            case 12: return text.length;
            default: return OUTSIDE;
        }
    }

    // ---- what the calls share

    private void tell(int clause) {
        int word = text.wordOf(clause);
        int first = text.numberOf(clause, 0);
        int second = text.numberOf(clause, 1);
        switch (word) {
            case Text.LAND: country.clear(); break;
            case Text.BRASS: country.addKey(new Brass(first, 0)); break;
            case Text.RUSTY: country.addKey(new Rusty(first, second)); break;
            case Text.MASTER: country.addKey(new Master(first)); break;
            case Text.FILED: country.addKey(new Filed(first, second)); break;
            case Text.LOCK: country.addLock(new Lock(first, second, text.numberOf(clause, 2), text.numberOf(clause, 3))); break;
            case Text.WALKER: country.addWalker(first); break;
            case Text.DARK: country.dark = first; break;
            default: break;
        }
    }

    private static boolean isOfKind(Key one, int kind) {
        switch (kind) {
            case 0: return true;
            case 1: return one instanceof Brass;
            case 2: return one instanceof Rusty;
            case 3: return one instanceof Master;
            case 4: return one instanceof Filed;
            default: return false;
        }
    }

    private boolean isBroken(int key) {
        return now.turnedOf(key) >= TURNS_THAT_BREAK;
    }

    private void remember() {
        pastAt(pastNext).takeFrom(now);
        pastNext++;
        pastCount = Math.min(pastCount + 1, MOST_PAST);
    }

    /** The past goes round: behind its last place comes the first again. */
    private Standing pastAt(int place) {
        return past[Math.floorMod(place, MOST_PAST)];
    }

    private int locksFor(Key one, int bent) {
        int set = 0;
        for (int l = 0; l < country.lockCount; l++) {
            Lock other = country.lockAt(l);
            if (other != null && other.letsIn(one, bent)) {
                set |= 1 << l;
            }
        }
        return set;
    }

    private int keysFor(Lock one) {
        int set = 0;
        for (int k = 0; k < country.keyCount; k++) {
            Key other = country.keyAt(k);
            if (other != null && one.letsIn(other, now.bentOf(k))) {
                set |= 1 << k;
            }
        }
        return set;
    }

    /** Keys that are not broken and go into this lock; none if it is open or there is no such lock. */
    private int usableKeysFor(int lock) {
        Lock one = country.lockAt(lock);
        return one == null || now.isOpen(lock) ? 0 : keysFor(one) & ~brokenKeys();
    }

    private boolean areTwins(int one, int other) {
        Key first = country.keyAt(one);
        Key second = country.keyAt(other);
        if (first == null || second == null) {
            return false;
        }
        int locks = locksFor(first, now.bentOf(one));
        return locks != 0 && locks == locksFor(second, now.bentOf(other));
    }

    private boolean isCutAsSeen(int cut) {
        for (int s = 0; s < seenCount && s < MOST_SEEN; s++) {
            Lock lock = country.lockAt(seenLocks[s]);
            if (lock != null && lock.letsBrass(cut) != (seenWent[s] == 1)) {
                return false;
            }
        }
        return true;
    }

    private boolean isKeyAsSeen(Key one, int bent) {
        for (int s = 0; s < seenCount && s < MOST_SEEN; s++) {
            Lock lock = country.lockAt(seenLocks[s]);
            if (lock != null && lock.letsIn(one, bent) != (seenWent[s] == 1)) {
                return false;
            }
        }
        return true;
    }

    private int brokenKeys() {
        int set = 0;
        for (int k = 0; k < country.keyCount; k++) {
            if (isBroken(k)) {
                set |= 1 << k;
            }
        }
        return set;
    }

    private int latestMinute() {
        int latest = 0;
        for (int w = 0; w < country.walkerCount; w++) {
            latest = Math.max(latest, now.minuteOf(w));
        }
        return latest;
    }

    private int racksThere() {
        int there = 0;
        for (int r = 0; r < MOST_RACKS; r++) {
            if (!racks[r].isMissing()) {
                there++;
            }
        }
        return there;
    }

    private Rack rackAt(int rack) {
        return rack >= 0 && rack < MOST_RACKS ? racks[rack] : null;
    }

    private static boolean isLane(int lane) {
        return lane >= BYTES && lane <= BOOLEANS;
    }

    private static int minutesBetween(int one, int other) {
        return Math.abs(one / 10 - other / 10) + Math.abs(one % 10 - other % 10);
    }

    private static int choose(int n, int m) {
        return n >= 0 && n <= MOST_KEYS && m >= 0 && m <= MOST_KEYS ? WAYS[n * (MOST_KEYS + 1) + m] : 0;
    }

    private static long lowest(long above, long below, int part) {
        long common = commonOf(Math.abs(above), below);
        if (common <= 0) {
            return 0;
        }
        return part == 0 ? above / common : below / common;
    }

    private static long commonOf(long one, long other) {
        long larger = one;
        long rest = other;
        // the rest is halved at least every second step, so 200 steps are more than a long needs
        for (int step = 0; step < 200 && rest != 0; step++) {
            long next = larger % rest;
            larger = rest;
            rest = next;
        }
        return larger;
    }

    /** What texts told; it stays so until the next one. */
    private static final class Country {
        final Key[] keys = new Key[MOST_KEYS];
        int keyCount;
        final Lock[] locks = new Lock[MOST_LOCKS];
        int lockCount;
        final int[] toldPlaces = new int[MOST_WALKERS];
        int walkerCount;
        int dark = FIRST_DARK;

        void clear() {
            keyCount = 0;
            lockCount = 0;
            walkerCount = 0;
            dark = FIRST_DARK;
        }

        void addKey(Key one) {
            if (keyCount < MOST_KEYS) {
                keys[keyCount] = one;
                keyCount++;
            }
        }

        void addLock(Lock one) {
            if (lockCount < MOST_LOCKS) {
                locks[lockCount] = one;
                lockCount++;
            }
        }

        void addWalker(int place) {
            if (walkerCount < MOST_WALKERS) {
                toldPlaces[walkerCount] = place;
                walkerCount++;
            }
        }

        Key keyAt(int k) {
            return k >= 0 && k < keyCount && k < MOST_KEYS ? keys[k] : null;
        }

        Lock lockAt(int l) {
            return l >= 0 && l < lockCount && l < MOST_LOCKS ? locks[l] : null;
        }

        boolean hasWalker(int w) {
            return w >= 0 && w < walkerCount;
        }

        int allKeys() {
            return (1 << keyCount) - 1;
        }
    }

    /** A key as it was cut; how it is bent stands apart, so that it can be kept and undone. */
    private abstract static class Key {
        final int cut;
        final int mark;

        Key(int cut, int mark) {
            this.cut = cut;
            this.mark = mark;
        }

        abstract int kindNumber();

        abstract int edge(int bent);

        abstract int room(int play);

        final int goneRound(int bent) {
            return (cut << bent | cut >> WARDS - bent) & ALL_WARDS;
        }
    }

    private static class Brass extends Key {
        Brass(int cut, int mark) {
            super(cut, mark);
        }

        int kindNumber() {
            return 0;
        }

        int edge(int bent) {
            return goneRound(bent);
        }

        int room(int play) {
            return play;
        }
    }

    private static final class Rusty extends Brass {
        Rusty(int cut, int rust) {
            super(cut, rust);
        }

        int kindNumber() {
            return 1;
        }

        int edge(int bent) {
            int left = super.edge(bent);
            int rust = mark;
            for (int ward = WARDS - 1; ward >= 0; ward--) {
                if (rust > 0 && (left >> ward & 1) == 1) {
                    left &= ~(1 << ward);
                    rust--;
                }
            }
            return left;
        }

        int room(int play) {
            return super.room(play) + 1;
        }
    }

    private static final class Master extends Brass {
        Master(int cut) {
            super(cut, 0);
        }

        int kindNumber() {
            return 2;
        }

        int room(int play) {
            return WARDS;
        }
    }

    private static final class Filed extends Key {
        Filed(int cut, int filedOff) {
            super(cut, filedOff);
        }

        int kindNumber() {
            return 3;
        }

        int edge(int bent) {
            int left = goneRound(bent);
            int toFile = mark;
            for (int ward = 0; ward < WARDS; ward++) {
                if (toFile > 0 && (left >> ward & 1) == 1) {
                    left &= ~(1 << ward);
                    toFile--;
                }
            }
            return left;
        }

        int room(int play) {
            return play;
        }
    }

    private static final class Lock {
        final int place;
        final int wanted;
        final int play;
        final int value;

        Lock(int place, int wanted, int play, int value) {
            this.place = place;
            this.wanted = wanted;
            this.play = play;
            this.value = value;
        }

        int lackingIn(int edge) {
            return Integer.bitCount(wanted & ~edge);
        }

        int overIn(int edge) {
            return Integer.bitCount(edge & ~wanted);
        }

        boolean letsIn(Key one, int bent) {
            int edge = one.edge(bent);
            return lackingIn(edge) == 0 && overIn(edge) <= one.room(play);
        }

        /** What letsIn tells of a brass key that is not bent, without one being made for each cut. */
        boolean letsBrass(int cut) {
            return lackingIn(cut) == 0 && overIn(cut) <= play;
        }
    }

    /** What is done and can be undone, kept and brought back. */
    private static final class Standing {
        int today;
        int found;
        int openSet;
        final int[] bent = new int[MOST_KEYS];
        final int[] turned = new int[MOST_KEYS];
        final int[] places = new int[MOST_WALKERS];
        final int[] minutes = new int[MOST_WALKERS];

        void begin(Country country) {
            today = 0;
            found = 0;
            openSet = 0;
            for (int k = 0; k < MOST_KEYS; k++) {
                bent[k] = 0;
                turned[k] = 0;
            }
            for (int w = 0; w < MOST_WALKERS; w++) {
                places[w] = country.toldPlaces[w];
                minutes[w] = 0;
            }
        }

        void takeFrom(Standing other) {
            today = other.today;
            found = other.found;
            openSet = other.openSet;
            for (int k = 0; k < MOST_KEYS; k++) {
                bent[k] = other.bent[k];
                turned[k] = other.turned[k];
            }
            for (int w = 0; w < MOST_WALKERS; w++) {
                places[w] = other.places[w];
                minutes[w] = other.minutes[w];
            }
        }

        int bentOf(int k) {
            return k >= 0 && k < MOST_KEYS ? bent[k] : 0;
        }

        int turnedOf(int k) {
            return k >= 0 && k < MOST_KEYS ? turned[k] : 0;
        }

        int placeOf(int w) {
            return w >= 0 && w < MOST_WALKERS ? places[w] : 0;
        }

        int minuteOf(int w) {
            return w >= 0 && w < MOST_WALKERS ? minutes[w] : 0;
        }

        boolean isOpen(int l) {
            return (openSet >> l & 1) == 1;
        }

        void stand(int w, int place, int minute) {
            if (w >= 0 && w < MOST_WALKERS) {
                places[w] = place;
                minutes[w] = minute;
            }
        }

        void turn(int k) {
            if (k >= 0 && k < MOST_KEYS) {
                turned[k]++;
            }
        }

        void bend(int k) {
            if (k >= 0 && k < MOST_KEYS) {
                bent[k] = (bent[k] + 1) % WARDS;
            }
        }

        void restore(int k) {
            if (k >= 0 && k < MOST_KEYS) {
                bent[k] = 0;
                turned[k] = 0;
            }
        }

        void open(int l, int value) {
            openSet |= 1 << l;
            found += value;
        }

        void close(int l) {
            openSet &= ~(1 << l);
        }

        void nextDay() {
            today++;
            for (int w = 0; w < MOST_WALKERS; w++) {
                minutes[w] = 0;
            }
        }
    }

    /** THE TEXT, and its clauses as they were read last. */
    private static final class Text {
        static final int LAND = 0;
        static final int BRASS = 1;
        static final int RUSTY = 2;
        static final int MASTER = 3;
        static final int FILED = 4;
        static final int LOCK = 5;
        static final int WALKER = 6;
        static final int DARK = 7;
        static final int WORDS = 8;
        static final int MOST_LETTERS = 200;
        static final int MOST_CLAUSES = 20;
        static final int MOST_DIGITS = 3;
        static final int NUMBERS = 4;
        static final int SMALL = 0;
        static final int DIGIT = 1;
        static final int OTHER = 2;

        // by word, the highest that each of its numbers may be; NONE where it has no such number
        private static final int[] HIGHEST = {
            NONE, NONE, NONE, NONE,
            ALL_WARDS, NONE, NONE, NONE,
            ALL_WARDS, 9, NONE, NONE,
            ALL_WARDS, NONE, NONE, NONE,
            ALL_WARDS, 9, NONE, NONE,
            99, ALL_WARDS, 3, 30,
            99, NONE, NONE, NONE,
            99, NONE, NONE, NONE,
        };

        final int[] letters = new int[MOST_LETTERS];
        int length;
        int clauses;
        final int[] words = new int[MOST_CLAUSES];
        final int[] numbers = new int[MOST_CLAUSES * NUMBERS];
        int start;
        int end;
        int keysFree;
        int locksFree;
        int walkersFree;

        boolean hasPlace() {
            return length < MOST_LETTERS;
        }

        void add(int letter) {
            if (hasPlace()) {
                letters[length] = letter;
                length++;
            }
        }

        void takeLetters(Text other) {
            for (int i = 0; i < other.length && i < MOST_LETTERS; i++) {
                letters[i] = other.letters[i];
            }
            length = other.length;
        }

        int wordOf(int clause) {
            return clause >= 0 && clause < MOST_CLAUSES ? words[clause] : NONE;
        }

        int numberOf(int clause, int nth) {
            int at = clause * NUMBERS + nth;
            return at >= 0 && at < MOST_CLAUSES * NUMBERS ? numbers[at] : 0;
        }

        /** Reads all clauses as they would come on top of what was told; the place of the fault, or NONE. */
        int readFor(Country country) {
            clauses = 0;
            end = 0;
            keysFree = MOST_KEYS - country.keyCount;
            locksFree = MOST_LOCKS - country.lockCount;
            walkersFree = MOST_WALKERS - country.walkerCount;
            for (int c = 0; c < MOST_CLAUSES; c++) {
                nextToken();
                if (!readClause()) {
                    return start;
                }
                nextToken();
                if (start >= length) {
                    return NONE;
                }
                if (letterAt(start) != ';') {
                    return start;
                }
            }
            // behind the last clause that there may be no ; can stand either
            return start;
        }

        private boolean readClause() {
            int word = wordHere();
            if (word == NONE || clauses >= MOST_CLAUSES || !takesPlace(word)) {
                return false;
            }
            words[clauses] = word;
            for (int nth = 0; nth < NUMBERS; nth++) {
                int highest = HIGHEST[word * NUMBERS + nth];
                int number = 0;
                if (highest != NONE) {
                    nextToken();
                    number = numberHere();
                    if (number < (word == DARK ? 10 : 0) || number > highest) {
                        return false;
                    }
                }
                numbers[clauses * NUMBERS + nth] = number;
            }
            clauses++;
            return true;
        }

        private boolean takesPlace(int word) {
            switch (word) {
                case LAND:
                    keysFree = MOST_KEYS;
                    locksFree = MOST_LOCKS;
                    walkersFree = MOST_WALKERS;
                    return true;
                case LOCK:
                    locksFree--;
                    return locksFree >= 0;
                case WALKER:
                    walkersFree--;
                    return walkersFree >= 0;
                case DARK:
                    return true;
                default:
                    keysFree--;
                    return keysFree >= 0;
            }
        }

        /** The token from start up to end; at the text's end both are its length. */
        private void nextToken() {
            start = end;
            while (start < length && letterAt(start) == ' ') {
                start++;
            }
            end = start;
            if (start < length) {
                int sort = sortOf(letterAt(start));
                end++;
                while (sort != OTHER && end < length && sortOf(letterAt(end)) == sort) {
                    end++;
                }
            }
        }

        private int letterAt(int i) {
            return i >= 0 && i < length && i < MOST_LETTERS ? letters[i] : NONE;
        }

        private static int sortOf(int letter) {
            if (letter >= 'a' && letter <= 'z') {
                return SMALL;
            }
            return letter >= '0' && letter <= '9' ? DIGIT : OTHER;
        }

        private int wordHere() {
            for (int word = 0; word < WORDS; word++) {
                if (isHere(spelled(word))) {
                    return word;
                }
            }
            return NONE;
        }

        private boolean isHere(String word) {
            if (end - start != word.length()) {
                return false;
            }
            for (int i = 0; i < word.length(); i++) {
                if (letterAt(start + i) != word.charAt(i)) {
                    return false;
                }
            }
            return true;
        }

        private static String spelled(int word) {
            switch (word) {
                case LAND: return "land";
                case BRASS: return "brass";
                case RUSTY: return "rusty";
                case MASTER: return "master";
                case FILED: return "filed";
                case LOCK: return "lock";
                case WALKER: return "walker";
                default: return "dark";
            }
        }

        /** The number that the token is; NONE, if it is none or has too many digits. */
        private int numberHere() {
            if (start >= length || end - start > MOST_DIGITS || sortOf(letterAt(start)) != DIGIT) {
                return NONE;
            }
            int number = 0;
            for (int i = start; i < end; i++) {
                number = 10 * number + letterAt(i) - '0';
            }
            return number;
        }
    }

    /** Best ways over sets of keys or of locks; its rows are made once, for all calls. */
    private static final class Planner {
        static final int NEVER = 1000000;

        final int[] takers = new int[MOST_LOCKS];
        final int[] mostFrom = new int[(MOST_LOCKS + 1) * KEY_SETS];
        final int[] chosen = new int[MOST_LOCKS];
        int pairs;
        final int[] through = new int[LOCK_SETS * MOST_LOCKS];
        final int[] tour = new int[LOCK_SETS];
        final int[] latest = new int[LOCK_SETS];

        int keyFor(int lock) {
            return lock >= 0 && lock < MOST_LOCKS ? chosen[lock] : NONE;
        }

        /** Most locks by a key each of their takers; of several ways the first. */
        void pairUp() {
            fillMost();
            pairs = mostFrom[0];
            int used = 0;
            for (int l = 0; l < MOST_LOCKS; l++) {
                chosen[l] = firstKeyFor(l, used);
                if (chosen[l] != NONE) {
                    used |= 1 << chosen[l];
                }
            }
        }

        /** How many of the locks from each one on can have keys yet, by the set of keys used. */
        private void fillMost() {
            for (int used = 0; used < KEY_SETS; used++) {
                mostFrom[MOST_LOCKS * KEY_SETS + used] = 0;
            }
            for (int l = MOST_LOCKS - 1; l >= 0; l--) {
                for (int used = 0; used < KEY_SETS; used++) {
                    int most = mostFrom[(l + 1) * KEY_SETS + used];
                    for (int k = 0; k < MOST_KEYS; k++) {
                        if (isFree(k, l, used)) {
                            most = Math.max(most, 1 + mostFrom[(l + 1) * KEY_SETS + (used | 1 << k)]);
                        }
                    }
                    mostFrom[l * KEY_SETS + used] = most;
                }
            }
        }

        private int firstKeyFor(int l, int used) {
            for (int k = 0; k < MOST_KEYS; k++) {
                if (isFree(k, l, used) && 1 + mostFrom[(l + 1) * KEY_SETS + (used | 1 << k)] == mostFrom[l * KEY_SETS + used]) {
                    return k;
                }
            }
            return NONE;
        }

        private boolean isFree(int k, int l, int used) {
            return (takers[l] >> k & 1) == 1 && (used >> k & 1) == 0;
        }

        void startWork() {
            latest[0] = 0;
            for (int set = 1; set < LOCK_SETS; set++) {
                latest[set] = NEVER;
            }
        }

        /** For each set of the locks, at what minute one walker can be through with it. */
        void walkFrom(int place, int minute, int locks, Country country) {
            for (int set = 1; set < LOCK_SETS; set++) {
                if ((set & ~locks) == 0) {
                    walkThrough(set, place, minute, country);
                }
            }
        }

        /** Fills the row of one set; those of the smaller sets within it are filled already. */
        private void walkThrough(int set, int place, int minute, Country country) {
            tour[set] = NEVER;
            for (int last = 0; last < country.lockCount; last++) {
                Lock lock = country.lockAt(last);
                if ((set >> last & 1) == 1 && lock != null) {
                    int there = set == 1 << last
                        ? minute + minutesBetween(place, lock.place)
                        : minuteAfter(set ^ 1 << last, lock, country);
                    through[set * MOST_LOCKS + last] = there + MINUTES_AT_LOCK;
                    tour[set] = Math.min(tour[set], there + MINUTES_AT_LOCK);
                }
            }
        }

        private int minuteAfter(int set, Lock lock, Country country) {
            int least = NEVER;
            for (int before = 0; before < country.lockCount; before++) {
                Lock other = country.lockAt(before);
                if ((set >> before & 1) == 1 && other != null) {
                    least = Math.min(least, through[set * MOST_LOCKS + before] + minutesBetween(other.place, lock.place));
                }
            }
            return least;
        }

        /** The walker whose tours stand now takes its part of each set. */
        void shareWith(int locks) {
            // from the largest set down: smaller ones must yet be without this walker; where it takes no part, it does not count
            for (int set = LOCK_SETS - 1; set > 0; set--) {
                if ((set & ~locks) == 0) {
                    for (int part = set; part > 0; part = part - 1 & set) {
                        latest[set] = Math.min(latest[set], Math.max(latest[set ^ part], tour[part]));
                    }
                }
            }
        }

        int fewestFor(int n) {
            int fewest = NEVER;
            for (int set = 1; set < LOCK_SETS; set++) {
                if (Integer.bitCount(set) == n) {
                    fewest = Math.min(fewest, latest[set]);
                }
            }
            return fewest < NEVER ? fewest : NONE;
        }
    }

    /** A row of things of one lane; the numbers stand in longs, cut down to what the lane holds. */
    private static final class Rack {
        final long[] things = new long[MOST_THINGS];
        int lane = NONE;
        int size;

        boolean isMissing() {
            return lane == NONE;
        }

        void begin(int newLane, int n) {
            lane = newLane;
            size = n;
            for (int i = 0; i < MOST_THINGS; i++) {
                things[i] = 0;
            }
        }

        /** Whether n places from i on are there. */
        boolean spans(int i, int n) {
            return i >= 0 && n >= 0 && i <= size && n <= size - i;
        }

        long thingAt(int i) {
            return i >= 0 && i < size && i < MOST_THINGS ? things[i] : 0;
        }

        void put(int i, long v) {
            if (i >= 0 && i < size && i < MOST_THINGS) {
                things[i] = cutDown(v);
            }
        }

        private long cutDown(long v) {
            switch (lane) {
                case BYTES: return (byte) v;
                case SHORTS: return (short) v;
                case INTS: return (int) v;
                case LONGS: return v;
                case BOOLEANS: return v & 1;
                default: return 0;
            }
        }

        long together() {
            long sum = 0;
            for (int i = 0; i < size && i < MOST_THINGS; i++) {
                sum += things[i];
            }
            return sum;
        }
    }
}
