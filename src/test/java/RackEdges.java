/** Boundary sentences of section 4 and of promises 28 to 35. */
final class RackEdges {
    private static final int MIN = Edges.MIN, MAX = Edges.MAX;
    private static final int[] NO_RACK = {MIN, -1, 4, 5, MAX};
    private static final int[] NO_LANE = {MIN, -1, 5, 6, MAX};

    private RackEdges() { }

    static void all() {
        missingAtFirst();
        sizes();
        theFirstThatFits();
        rackAsked();
        lowestBits();
        hangAsked();
        lookFar();
        lookAsked();
        copyAsIfTakenAhead();
        copyAsked();
        dropAsked();
        shareInLowestTerms();
        shareAsked();
        filmLockByLock();
        filmAsked();
        countAsked();
    }

    private static void missingAtFirst() {
        Edges.says("RACKS 0 .. 3 are missing (at first), or rows of a LANE (0 bytes, 1 shorts, 2 ints, 3 longs, 4 booleans) of 0 to 24 things");
        WardWalkers x = new WardWalkers();
        for (int r = 0; r < 4; r++) {
            Edges.due("missing", x.look(r, 0), Edges.NULL);
            Edges.due("there", x.count(10), 0);
        }
        Edges.due("no rack below", x.look(-1, 0), Edges.UNKNOWN);
        Edges.due("no rack above", x.look(4, 0), Edges.UNKNOWN);
    }

    private static void sizes() {
        for (int lane = 0; lane < 5; lane++) {
            for (int n : new int[] {0, 1, 23, 24}) {
                WardWalkers x = new WardWalkers();
                Edges.due("of lane " + lane, x.rack(3, lane, n), n);
                for (int i = 0; i < n; i++) {
                    Edges.due("thing at first", x.look(3, i), 0);
                }
                Edges.due("beyond the end", x.look(3, n), Edges.INDEX);
                Edges.due("of its lane", x.hang(3, lane, n, 1), Edges.INDEX);
                Edges.due("of no other", x.hang(3, (lane + 1) % 5, n, 1), Edges.CAST);
                Edges.due("dropped", x.drop(3), n);
            }
            Edges.due("25 things", new WardWalkers().rack(3, lane, 25), Edges.OUTSIDE);
            Edges.due("fewer than none", new WardWalkers().rack(3, lane, -1), Edges.SIZE);
        }
    }

    private static WardWalkers shortsAndInts() {
        WardWalkers x = Edges.busy();
        x.rack(1, 1, 2);
        x.rack(3, 2, 2);
        return x;
    }

    private static void theFirstThatFits() {
        Edges.says("What the machine finds is answered as NULL -11 (the RACK is missing), CAST -12 (it is of another LANE than told), INDEX -13 (a place that there is not), SIZE -14 (fewer than none), STORE -15 (RACKS of unlike LANES), ZERO -16 (shared among none), of several the first in this order, but as told; it changes nothing");
        Edges.refused(Edges::busy, "NULL ahead of INDEX", Edges.NULL, x -> x.look(3, 99));
        Edges.refused(Edges::busy, "NULL ahead of CAST and INDEX", Edges.NULL, x -> x.hang(3, 0, 99, 1));
        Edges.refused(Edges::busy, "CAST ahead of INDEX", Edges.CAST, x -> x.hang(0, 1, 99, 1));
        Edges.refused(Edges::busy, "NULL ahead of STORE and INDEX", Edges.NULL, x -> x.copy(0, 99, 3, 0, -1));
        Edges.refused(Edges::busy, "STORE, as told, ahead of INDEX", Edges.STORE, x -> x.copy(0, 99, 1, 0, -1));
        Edges.refused(Edges::busy, "NULL ahead of CAST", Edges.NULL, x -> x.share(3, 0));
        Edges.refused(RackEdges::noThings, "CAST ahead of ZERO", Edges.CAST, x -> x.share(0, 0));
        Edges.refused(RackEdges::noThings, "ZERO", Edges.ZERO, x -> x.share(1, 0));
        Edges.refused(Edges::busy, "NULL ahead of CAST and INDEX", Edges.NULL, x -> x.film(0, 3, 99));
        Edges.refused(Edges::busy, "CAST ahead of INDEX", Edges.CAST, x -> x.film(0, 0, 99));
        Edges.says("Refused, and nothing changes: UNKNOWN (no such KEY, LOCK, WALKER, RACK; a set with bits of such), OUTSIDE (another number is not as told), NOT (not now: as told), FULL, then what the machine finds: the first of these that fits");
        Edges.refused(Edges::busy, "UNKNOWN ahead of OUTSIDE", Edges.UNKNOWN, x -> x.rack(4, 5, 25));
        Edges.refused(Edges::busy, "UNKNOWN ahead of SIZE", Edges.UNKNOWN, x -> x.rack(4, 0, -1));
        Edges.refused(Edges::busy, "OUTSIDE ahead of SIZE", Edges.OUTSIDE, x -> x.rack(0, 5, -1));
        Edges.refused(Edges::busy, "OUTSIDE ahead of NULL", Edges.OUTSIDE, x -> x.hang(3, 5, 0, 1));
        Edges.refused(Edges::busy, "OUTSIDE ahead of NULL", Edges.OUTSIDE, x -> x.share(3, 2));
        Edges.refused(Edges::busy, "UNKNOWN ahead of NULL", Edges.UNKNOWN, x -> x.copy(3, 0, 4, 0, 1));
        Edges.refused(Edges::busy, "UNKNOWN ahead of NULL", Edges.UNKNOWN, x -> x.film(4, 3, 0));
        Edges.refused(Edges::busy, "UNKNOWN ahead of NOT", Edges.UNKNOWN, x -> x.tries(2, 0, 0));
        Edges.refused(Edges::busy, "UNKNOWN ahead of OUTSIDE and ZERO", Edges.UNKNOWN, x -> x.odds(0, 3, 8, 2));
        Edges.refused(Edges::busy, "OUTSIDE ahead of ZERO", Edges.OUTSIDE, x -> x.odds(0, 0, 8, 0));
        Edges.says("Parts are told in lowest terms: above (part 0), below (1)");
        WardWalkers y = Check.told("brass 1;brass 1;brass 2;brass 2;lock 0 1 0 0");
        Edges.due("two of four, above", y.odds(15, 0, 1, 0), 1);
        Edges.due("two of four, below", y.odds(15, 0, 1, 1), 2);
        Edges.due("none of four, above", y.odds(12, 0, 1, 0), 0);
        Edges.due("none of four, below", y.odds(12, 0, 1, 1), 1);
    }

    /** Rack 0 has no bytes, rack 1 no ints. */
    private static WardWalkers noThings() {
        WardWalkers x = Edges.busy();
        x.rack(0, 0, 0);
        x.rack(1, 2, 0);
        return x;
    }

    private static void rackAsked() {
        Edges.promise(28, "A RACK is a new row of n things (0, false) of a LANE: n.");
        WardWalkers y = Edges.busy();
        Edges.due("anew, of another lane", y.rack(0, 3, 24), 24);
        for (int i = 0; i < 24; i++) {
            Edges.due("thing", y.look(0, i), 0);
        }
        Edges.due("shorter", y.rack(0, 3, 1), 1);
        Edges.due("beyond it", y.look(0, 1), Edges.INDEX);
        Edges.due("of none", y.rack(0, 3, 0), 0);
        Edges.due("it is there", y.count(10), 3);
        y.rack(2, 4, 4);
        Edges.due("false", y.look(2, 3), 0);
        Edges.promise(28, "UNKNOWN; OUTSIDE (LANE; n above 24); SIZE.");
        for (int rack : NO_RACK) {
            Edges.refused(Edges::busy, "rack " + rack, Edges.UNKNOWN, x -> x.rack(rack, 0, 1));
        }
        for (int lane : NO_LANE) {
            Edges.refused(Edges::busy, "lane " + lane, Edges.OUTSIDE, x -> x.rack(0, lane, 1));
            Edges.refused(Edges::busy, "ahead of SIZE: lane " + lane, Edges.OUTSIDE, x -> x.rack(3, lane, -1));
        }
        for (int n : new int[] {25, 26, MAX}) {
            Edges.refused(Edges::busy, "n " + n, Edges.OUTSIDE, x -> x.rack(0, 0, n));
        }
        for (int n : new int[] {-1, -2, MIN}) {
            Edges.refused(Edges::busy, "n " + n, Edges.SIZE, x -> x.rack(0, 0, n));
            Edges.refused(Edges::busy, "a missing one, n " + n, Edges.SIZE, x -> x.rack(3, 0, n));
        }
    }

    /** What look() must answer of this number. */
    private static long told(long v) {
        if (v < 0) {
            return Math.floorMod(-(v + 1), 1000003L) + 3000000000000L;
        }
        return v > 1000000000000L ? v % 1000003 + 2000000000000L : v;
    }

    private static void lowestBits() {
        Edges.promise(29, "Thing i of a RACK, taken as of a LANE, becomes v, its lowest bits, as many as the LANE has (a boolean: whether v is odd): 1.");
        long[] numbers = {0, 1, -1, 2, -2, 127, 128, 129, -127, -128, -129, 255, 256, 257, 32767, 32768, -32768, -32769, 65535, 65536,
            (1L << 31) - 1, 1L << 31, -(1L << 31), -(1L << 31) - 1, (1L << 32) - 1, 1L << 32, (1L << 32) + 1, Long.MAX_VALUE, Long.MIN_VALUE};
        for (long v : numbers) {
            long[] due = {(byte) v, (short) v, (int) v, v, v & 1};
            for (int lane = 0; lane < 5; lane++) {
                WardWalkers x = new WardWalkers();
                x.rack(2, lane, 24);
                Edges.due("hang at the first place", x.hang(2, lane, 0, v), 1);
                Edges.due("hang at the last place", x.hang(2, lane, 23, v), 1);
                Edges.due(v + " of lane " + lane, x.look(2, 0), told(due[lane]));
                Edges.due(v + " of lane " + lane, x.look(2, 23), told(due[lane]));
                Edges.due("beside it", x.look(2, 1) + x.look(2, 22), 0);
            }
        }
    }

    private static void hangAsked() {
        Edges.promise(29, "UNKNOWN; OUTSIDE (LANE); NULL; CAST; INDEX.");
        for (int rack : NO_RACK) {
            Edges.refused(Edges::busy, "rack " + rack, Edges.UNKNOWN, x -> x.hang(rack, 5, 99, 1));
        }
        for (int lane : NO_LANE) {
            Edges.refused(Edges::busy, "lane " + lane, Edges.OUTSIDE, x -> x.hang(0, lane, 99, 1));
            Edges.refused(Edges::busy, "lane " + lane + ", ahead of NULL", Edges.OUTSIDE, x -> x.hang(3, lane, 99, 1));
        }
        for (int lane = 0; lane < 5; lane++) {
            int taken = lane;
            Edges.refused(Edges::busy, "missing", Edges.NULL, x -> x.hang(3, taken, 0, 1));
            if (lane != 2) {
                Edges.refused(Edges::busy, "of another lane", Edges.CAST, x -> x.hang(1, taken, 0, 1));
            }
        }
        for (int i : new int[] {-1, 3, 24, MIN, MAX}) {
            Edges.refused(Edges::busy, "place " + i, Edges.INDEX, x -> x.hang(0, 0, i, 1));
        }
        Edges.refused(RackEdges::noThings, "place 0 of none", Edges.INDEX, x -> x.hang(0, 0, 0, 1));
    }

    private static void lookFar() {
        Edges.promise(30, "Thing i of a RACK (a boolean as 1, 0), if it is 0 to 1000000000000; else its rest by 1000003, and 2000000000000 more (of one below 0 the rest of how far it is below 0, less 1, and 3000000000000 more).");
        long[][] due = {{0, 0}, {1, 1}, {1000003, 1000003}, {999999999999L, 999999999999L}, {1000000000000L, 1000000000000L},
            {1000000000001L, 2000000000010L}, {1000000999993L, 2000001000002L}, {1000000999994L, 2000000000000L},
            {Long.MAX_VALUE, 2000000675344L},
            {-1, 3000000000000L}, {-2, 3000000000001L}, {-1000003, 3000001000002L}, {-1000004, 3000000000000L}, {Long.MIN_VALUE, 3000000675344L}};
        WardWalkers x = new WardWalkers();
        x.rack(0, 3, 1);
        for (long[] d : due) {
            x.hang(0, 3, 0, d[0]);
            Edges.due("look at " + d[0], x.look(0, 0), d[1]);
        }
        Edges.due("true", Edges.busy().look(2, 3), 1);
        Edges.due("false", Edges.busy().look(2, 2), 0);
        Edges.foretold(Edges::busy, "look", 12, y -> y.look(0, 1));
    }

    private static void lookAsked() {
        Edges.promise(30, "UNKNOWN; NULL; INDEX.");
        for (int rack : NO_RACK) {
            Edges.refused(Edges::busy, "rack " + rack, Edges.UNKNOWN, x -> x.look(rack, 99));
        }
        for (int i : new int[] {MIN, -1, 0, 24, MAX}) {
            Edges.refused(Edges::busy, "missing", Edges.NULL, x -> x.look(3, i));
            Edges.refused(RackEdges::noThings, "place " + i + " of none", Edges.INDEX, x -> x.look(0, i));
        }
        for (int i : new int[] {-1, 3, 24, MIN, MAX}) {
            Edges.refused(Edges::busy, "place " + i, Edges.INDEX, x -> x.look(0, i));
        }
    }

    private static void copyAsIfTakenAhead() {
        Edges.promise(31, "n things of a RACK from i on come to another one (or itself) from j on, as if all were taken ahead: n.");
        for (int size : new int[] {1, 5, 24}) {
            for (int i = 0; i <= size; i++) {
                for (int j = 0; j <= size; j++) {
                    int most = size - Math.max(i, j);
                    for (int n = 0; n <= most; n += size == 24 ? 7 : 1) {
                        copied(size, 0, i, j, n);
                        copied(size, 1, i, j, n);
                    }
                }
            }
        }
    }

    /** Copies within rack 0, or from it to rack 1, and looks at both. */
    private static void copied(int size, int to, int i, int j, int n) {
        WardWalkers x = new WardWalkers();
        x.rack(0, 2, size);
        x.rack(1, 2, size);
        int[] due = new int[size];
        for (int t = 0; t < size; t++) {
            x.hang(0, 2, t, t + 1);
            due[t] = to == 0 ? t + 1 : 0;
        }
        for (int t = 0; t < n; t++) {
            due[j + t] = i + t + 1;
        }
        Edges.due("copy " + i + " " + j + " " + n, x.copy(0, i, to, j, n), n);
        for (int t = 0; t < size; t++) {
            Edges.due("thing " + t, x.look(to, t), due[t]);
            Edges.due("the other one's", x.look(1 - to, t), to == 0 ? 0 : t + 1);
        }
    }

    private static void copyAsked() {
        Edges.promise(31, "UNKNOWN; NULL (either); STORE; INDEX (i, j, n below 0, or beyond an end). (STORE ahead of INDEX.)");
        for (int rack : NO_RACK) {
            Edges.refused(Edges::busy, "from " + rack, Edges.UNKNOWN, x -> x.copy(rack, -1, 3, -1, -1));
            Edges.refused(Edges::busy, "to " + rack, Edges.UNKNOWN, x -> x.copy(3, -1, rack, -1, -1));
        }
        Edges.refused(Edges::busy, "from one missing", Edges.NULL, x -> x.copy(3, -1, 0, -1, -1));
        Edges.refused(Edges::busy, "to one missing", Edges.NULL, x -> x.copy(0, -1, 3, -1, -1));
        Edges.refused(Edges::busy, "of one missing to itself", Edges.NULL, x -> x.copy(3, 0, 3, 0, 0));
        Edges.refused(Edges::busy, "unlike lanes", Edges.STORE, x -> x.copy(0, 0, 1, 0, 1));
        Edges.refused(Edges::busy, "unlike lanes, of none", Edges.STORE, x -> x.copy(0, 0, 1, 0, 0));
        Edges.refused(RackEdges::shortsAndInts, "shorts to ints", Edges.STORE, x -> x.copy(1, 0, 3, 0, 1));
        Edges.refused(RackEdges::shortsAndInts, "ints to shorts, ahead of INDEX", Edges.STORE, x -> x.copy(3, -1, 1, MAX, MIN));
        int[][] index = {{-1, 0, 1}, {0, -1, 1}, {0, 0, -1}, {MIN, 0, 1}, {0, MIN, 1}, {0, 0, MIN}, {4, 0, 0}, {0, 4, 0}, {3, 0, 1}, {0, 3, 1},
            {0, 0, 4}, {1, 0, 3}, {0, 1, 3}, {MAX, 0, 0}, {0, MAX, 0}, {0, 0, MAX}, {MAX, MAX, MAX}, {1, 1, MAX}, {MAX, 1, 1}, {1, MAX, 1},
            {-1, -1, 0}, {MIN, MIN, MIN}, {-1, 0, 0}, {0, -1, 0}};
        for (int[] c : index) {
            Edges.refused(Edges::busy, "copy " + c[0] + " " + c[1] + " " + c[2], Edges.INDEX, x -> x.copy(0, c[0], 0, c[1], c[2]));
        }
        Edges.foretold(Edges::busy, "none, at both ends", 0, x -> x.copy(0, 3, 0, 3, 0));
        Edges.foretold(RackEdges::noThings, "none of none", 0, x -> x.copy(0, 0, 0, 0, 0));
    }

    private static void dropAsked() {
        Edges.promise(32, "A RACK is missing from now on: how many things it had.");
        WardWalkers y = noThings();
        Edges.due("of none", y.drop(0), 0);
        Edges.due("of 4", y.drop(2), 4);
        Edges.due("missing", y.look(2, 0), Edges.NULL);
        Edges.due("there", y.count(10), 1);
        y.rack(3, 0, 24);
        Edges.due("of 24", y.drop(3), 24);
        Edges.due("made again", y.rack(2, 4, 4), 4);
        Edges.due("false", y.look(2, 3), 0);
        Edges.promise(32, "UNKNOWN; NULL.");
        for (int rack : NO_RACK) {
            Edges.refused(Edges::busy, "rack " + rack, Edges.UNKNOWN, x -> x.drop(rack));
        }
        Edges.refused(Edges::busy, "missing", Edges.NULL, x -> x.drop(3));
    }

    private static void shareInLowestTerms() {
        Edges.promise(33, "All things of a RACK taken as of LANE 2 (ints) together, shared among as many as there are: above (part 0; below 0 perhaps; always 100000000000 more is told), below (1).");
        int[][] rows = {{0}, {1}, {-1}, {MAX}, {MIN}, {0, 0}, {1, 1}, {1, 2}, {-1, -2}, {5, -5}, {MAX, MAX}, {MIN, MIN}, {MAX, 1}, {3, 3, 4},
            {1, 0, 0, 1}, {-1, 0, 0, -1}, {2, 2, 2, 2, 2, 2, 2, 3}};
        for (int[] row : rows) {
            shared(row);
        }
        int[] most = new int[24];
        java.util.Arrays.fill(most, MAX);
        shared(most);
        java.util.Arrays.fill(most, MIN);
        shared(most);
        most[0] = MAX;
        shared(most);
        java.util.Arrays.fill(most, 0);
        most[23] = 12;
        shared(most);
    }

    private static void shared(int[] row) {
        WardWalkers x = new WardWalkers();
        x.rack(3, 2, row.length);
        long sum = 0;
        for (int i = 0; i < row.length; i++) {
            x.hang(3, 2, i, row[i]);
            sum += row[i];
        }
        int by = row.length;
        while (sum % by != 0 || row.length % by != 0) {
            by--;
        }
        Edges.due("above of " + sum, x.share(3, 0), 100000000000L + sum / by);
        Edges.due("below of " + sum, x.share(3, 1), row.length / by);
    }

    private static void shareAsked() {
        Edges.promise(33, "UNKNOWN; OUTSIDE; NULL; CAST; ZERO: it has none.");
        for (int rack : NO_RACK) {
            Edges.refused(Edges::busy, "rack " + rack, Edges.UNKNOWN, x -> x.share(rack, 2));
        }
        for (int part : new int[] {-1, 2, MIN, MAX}) {
            Edges.refused(Edges::busy, "part " + part, Edges.OUTSIDE, x -> x.share(1, part));
            Edges.refused(Edges::busy, "part " + part + ", ahead of NULL", Edges.OUTSIDE, x -> x.share(3, part));
            Edges.refused(Edges::busy, "part " + part + ", ahead of CAST", Edges.OUTSIDE, x -> x.share(0, part));
            Edges.refused(RackEdges::noThings, "part " + part + ", ahead of ZERO", Edges.OUTSIDE, x -> x.share(1, part));
        }
        for (int part = 0; part < 2; part++) {
            int told = part;
            Edges.refused(Edges::busy, "missing", Edges.NULL, x -> x.share(3, told));
            Edges.refused(Edges::busy, "bytes", Edges.CAST, x -> x.share(0, told));
            Edges.refused(Edges::busy, "booleans", Edges.CAST, x -> x.share(2, told));
            Edges.refused(RackEdges::shortsAndInts, "shorts", Edges.CAST, x -> x.share(1, told));
            Edges.refused(RackEdges::noThings, "no bytes", Edges.CAST, x -> x.share(0, told));
            Edges.refused(RackEdges::noThings, "it has none", Edges.ZERO, x -> x.share(1, told));
        }
        Edges.foretold(Edges::busy, "share", 100000000003L, x -> x.share(1, 0));
    }

    private static void filmLockByLock() {
        Edges.promise(34, "BELONGS of a KEY comes to a RACK taken as of LANE 4, LOCK by LOCK from place i on: how many LOCKS there are.");
        WardWalkers x = Check.told("brass 1;lock 0 1 0 0;lock 0 2 0 0;lock 0 0 1 0;lock 0 2 0 0;lock 0 1 3 0;lock 0 2 0 0;lock 0 1 0 0");
        for (int i = 0; i <= 17; i++) {
            x.rack(0, 4, 24);
            Edges.due("film from " + i, x.film(0, 0, i), 7);
            for (int t = 0; t < 24; t++) {
                Edges.due("thing " + t, x.look(0, t), t >= i && t < i + 7 && (t - i) % 2 == 0 ? 1 : 0);
            }
        }
        x.rack(1, 4, 7);
        for (int t = 0; t < 7; t++) {
            x.hang(1, 4, t, 1);
        }
        Edges.due("just as many places", x.film(0, 1, 0), 7);
        for (int t = 0; t < 7; t++) {
            Edges.due("false takes the place of true", x.look(1, t), 1 - t % 2);
        }
    }

    private static WardWalkers noLocks() {
        WardWalkers x = Check.told("brass 1");
        x.rack(0, 4, 2);
        x.rack(1, 4, 0);
        x.hang(0, 4, 1, 1);
        return x;
    }

    private static void filmAsked() {
        Edges.promise(34, "UNKNOWN; NULL; CAST; INDEX (it has not so many places from i on; i below 0, beyond its end, also if there are none).");
        for (int key : new int[] {MIN, -1, 4, 7, MAX}) {
            Edges.refused(Edges::busy, "key " + key, Edges.UNKNOWN, x -> x.film(key, 3, -1));
        }
        for (int rack : NO_RACK) {
            Edges.refused(Edges::busy, "rack " + rack, Edges.UNKNOWN, x -> x.film(0, rack, -1));
        }
        Edges.refused(Edges::busy, "missing", Edges.NULL, x -> x.film(0, 3, -1));
        Edges.refused(Edges::busy, "bytes", Edges.CAST, x -> x.film(0, 0, 0));
        Edges.refused(Edges::busy, "ints", Edges.CAST, x -> x.film(0, 1, -1));
        for (int i : new int[] {-1, 2, 3, 4, 5, MIN, MAX}) {
            Edges.refused(Edges::busy, "3 locks from " + i + " of 4 on", Edges.INDEX, x -> x.film(2, 2, i));
        }
        Edges.due("3 locks from 1 of 4 on", Edges.busy().film(2, 2, 1), 3);
        for (int i : new int[] {-1, 3, MIN, MAX}) {
            Edges.refused(RackEdges::noLocks, "no locks from " + i + " of 2 on", Edges.INDEX, x -> x.film(0, 0, i));
        }
        for (int i = 0; i <= 2; i++) {
            int from = i;
            Edges.foretold(RackEdges::noLocks, "no locks from " + i + " of 2 on", 0, x -> x.film(0, 0, from));
        }
        Edges.foretold(RackEdges::noLocks, "no locks, no things", 0, x -> x.film(0, 1, 0));
        Edges.refused(RackEdges::noLocks, "no locks, beyond no things", Edges.INDEX, x -> x.film(0, 1, 1));
    }

    private static void countAsked() {
        Edges.promise(35, "0 KEYS, 1 LOCKS, 2 WALKERS, 3 DARK, 4 the DAY, 5 LOCKS that are open (bits), 6 KEYS that are BROKEN (bits), 7 VALUE FOUND in all, 8 the latest WALKER's MINUTE (0: no WALKERS), 9 SEEN, 10 RACKS that are there, 11 how many can be undone, 12 letters of THE TEXT.");
        int[] due = {4, 3, 2, 30, 1, 1, 1, 15, 0, 2, 3, 7, 4};
        for (int what = 0; what <= 12; what++) {
            int asked = what;
            Edges.foretold(Edges::busy, "count(" + what + ")", due[what], x -> x.count(asked));
            Edges.due("of a new object: count(" + what + ")", new WardWalkers().count(what), what == 3 ? 60 : 0);
        }
        Edges.due("no walkers", Check.told("brass 1;lock 0 1 0 0").count(8), 0);
        allOpenAllBroken();
        Edges.promise(35, "OUTSIDE.");
        for (int what : new int[] {-1, 13, 14, MIN, MAX}) {
            Edges.refused(Edges::busy, "count " + what, Edges.OUTSIDE, x -> x.count(what));
        }
    }

    private static void allOpenAllBroken() {
        WardWalkers x = Check.told(Edges.with(Edges.with("dark 99;walker 0;walker 0;walker 0", "brass 1", 7), "lock 0 1 0 30", 7));
        for (int k = 0; k < 7; k++) {
            for (int turn = 0; turn < 3; turn++) {
                Edges.due("opens", x.tries(k % 3, k, k), 2);
                if (turn < 2) {
                    Edges.due("shut", x.shut(k), 30);
                }
            }
        }
        Edges.due("all are open", x.count(5), 127);
        Edges.due("all are broken", x.count(6), 127);
        Edges.due("the latest of 18, 12, 12", x.count(8), 18);
        Edges.due("the last 8 alone", x.count(11), 8);
        for (int r = 0; r < 4; r++) {
            x.rack(r, r, 0);
        }
        Edges.due("all racks are there", x.count(10), 4);
    }
}
