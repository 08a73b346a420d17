/** Boundary sentences of section 3's second half, and of promises 23 to 27. */
final class SeenEdges {
    private SeenEdges() { }

    static void all() {
        sixAtMost();
        seenAsked();
        forgotten();
        cutsThatAreNone();
        cutsAsked();
        howWhateverTheKind();
        howAsked();
        oddsOfAll();
        oddsOfNone();
        oddsAsked();
    }

    private static void sixAtMost() {
        Edges.says("SEEN, 6 at most: a BRASS KEY that is not BENT did go into a LOCK (1), or did not (0)");
        WardWalkers x = Check.told("lock 5 1 0 0;lock 5 2 3 0");
        for (int i = 1; i <= 6; i++) {
            Edges.due("seen", x.seen(i % 2, i % 2), i);
            Edges.due("count", x.count(9), i);
        }
        Edges.due("a seventh", x.seen(0, 0), Edges.FULL);
        Edges.due("count", x.count(9), 6);
        Edges.due("the sixth counts: lock 0 not, lock 1", x.cuts(0), seenCuts());
    }

    /** How many cuts have ward 1 and no more than 3 others, but are not ward 0 alone. */
    private static int seenCuts() {
        int many = 0;
        for (int cut = 0; cut < 512; cut++) {
            many += (cut & 2) != 0 && Integer.bitCount(cut & ~2) <= 3 && cut != 1 ? 1 : 0;
        }
        return many;
    }

    private static WardWalkers fullOfSeen() {
        WardWalkers x = Edges.busy();
        for (int i = 3; i <= 6; i++) {
            Edges.due("seen", x.seen(1, 0), i);
        }
        return x;
    }

    private static void seenAsked() {
        Edges.promise(23, "SEEN: how many.");
        Edges.due("a third", Edges.busy().seen(2, 0), 3);
        Edges.due("a key must not be there", Check.told("lock 5 1 0 0").seen(0, 1), 1);
        WardWalkers same = Check.told("lock 5 1 0 0");
        same.seen(0, 1);
        Edges.due("the same once more", same.seen(0, 1), 2);
        Edges.promise(23, "UNKNOWN; OUTSIDE (went 0, 1); FULL.");
        for (int far : new int[] {Edges.MIN, -1, 3, 7, Edges.MAX}) {
            Edges.refused(Edges::busy, "lock " + far, Edges.UNKNOWN, x -> x.seen(far, 1));
            Edges.refused(SeenEdges::fullOfSeen, "lock " + far + ", ahead of the others", Edges.UNKNOWN, x -> x.seen(far, 2));
        }
        for (int far : new int[] {Edges.MIN, -1, 2, Edges.MAX}) {
            Edges.refused(Edges::busy, "went " + far, Edges.OUTSIDE, x -> x.seen(0, far));
            Edges.refused(SeenEdges::fullOfSeen, "went " + far + ", ahead of FULL", Edges.OUTSIDE, x -> x.seen(0, far));
        }
        Edges.refused(SeenEdges::fullOfSeen, "a seventh", Edges.FULL, x -> x.seen(0, 1));
        Edges.refused(SeenEdges::fullOfSeen, "a seventh", Edges.FULL, x -> x.seen(2, 0));
    }

    private static void forgotten() {
        Edges.promise(24, "SEEN is nothing: how many there were.");
        Edges.due("of a new object", new WardWalkers().forget(), 0);
        WardWalkers x = fullOfSeen();
        Edges.due("of six", x.forget(), 6);
        Edges.due("of none", x.forget(), 0);
        Edges.due("count", x.count(9), 0);
        Edges.due("cuts", x.cuts(0), 512);
        Edges.due("the first again", x.seen(0, 1), 1);
        Edges.due("of one", x.forget(), 1);
    }

    private static void cutsThatAreNone() {
        Edges.says("CUTS (0 .. 511) by which all that is SEEN would be so: how many; WARDS that are in each; WARDS that are in one at least (0, if there is none)");
        WardWalkers x = Check.told("lock 5 511 0 0;lock 5 0 0 0;lock 5 0 3 0");
        Edges.due("nothing is seen: all", x.cuts(0), 512);
        Edges.due("in each", x.cuts(1), 0);
        Edges.due("in some", x.cuts(2), 511);
        x.seen(0, 1);
        Edges.due("the most cut alone", x.cuts(0), 1);
        Edges.due("in each", x.cuts(1), 511);
        Edges.due("in some", x.cuts(2), 511);
        x.forget();
        x.seen(1, 1);
        Edges.due("the least cut alone", x.cuts(0), 1);
        Edges.due("in each", x.cuts(1), 0);
        Edges.due("in some", x.cuts(2), 0);
        x.seen(0, 1);
        Edges.due("no cut is both", x.cuts(0), 0);
        Edges.due("in each, none", x.cuts(1), 0);
        Edges.due("in some, none", x.cuts(2), 0);
        x.forget();
        x.seen(0, 0);
        x.seen(1, 0);
        Edges.due("all but the least and the most", x.cuts(0), 510);
        x.seen(2, 1);
        Edges.due("of 1 to 3 wards", x.cuts(0), 9 + 36 + 84);
        x.forget();
        x.seen(2, 1);
        x.seen(2, 0);
        Edges.due("it went and did not go", x.cuts(0), 0);
    }

    private static void cutsAsked() {
        Edges.promise(25, "CUTS: how many (what 0), WARDS in each (1), in some (2).");
        WardWalkers one = Check.told("lock 5 256 0 0;lock 5 257 0 0");
        one.seen(0, 0);
        one.seen(1, 0);
        Edges.due("how many", one.cuts(0), 510);
        Edges.due("in each", one.cuts(1), 0);
        Edges.due("in some", one.cuts(2), 511);
        Edges.due("no locks", new WardWalkers().cuts(0), 512);
        Edges.foretold(Edges::busy, "cuts(0)", 1, x -> x.cuts(0));
        Edges.foretold(Edges::busy, "cuts(1)", 1, x -> x.cuts(1));
        Edges.foretold(Edges::busy, "cuts(2)", 1, x -> x.cuts(2));
        Edges.promise(25, "OUTSIDE.");
        for (int far : new int[] {Edges.MIN, -1, 3, Edges.MAX}) {
            Edges.refused(Edges::busy, "cuts " + far, Edges.OUTSIDE, x -> x.cuts(far));
            Edges.due("of a new object: cuts " + far, new WardWalkers().cuts(far), Edges.OUTSIDE);
        }
    }

    private static void howWhateverTheKind() {
        Edges.says("HOW of a KEY: times (0 .. 8, by bits) that it could be BENT so that it would go into the LOCKS of all that is SEEN just so, whatever its KIND");
        WardWalkers x = Check.told("brass 1;rusty 257 1;master 1;filed 384 1;lock 5 1 0 0;lock 5 256 0 0");
        for (int k = 0; k < 4; k++) {
            Edges.due("nothing is seen: all", x.how(k), 511);
        }
        x.seen(1, 1);
        for (int k = 0; k < 4; k++) {
            int due = 0;
            for (int bent = 0; bent < 9; bent++) {
                due |= wardLeft(k, bent) == 8 ? 1 << bent : 0;
            }
            Edges.due("into ward 8, key " + k, x.how(k), due);
        }
        Edges.due("8 times, the most", x.how(0), 256);
        x.forget();
        x.seen(0, 1);
        Edges.due("0 times, the least", x.how(0), 1);
        x.seen(0, 0);
        Edges.due("never", x.how(0), 0);
        x.forget();
        x.seen(0, 0);
        Edges.due("all but 0 times", x.how(0), 510);
        WardWalkers kinds = Check.told("brass 7;rusty 7 0;master 7;filed 7 0;lock 5 3 0 0");
        kinds.seen(0, 1);
        int[] due = {0, 1 | 256, 1 | 256, 0};
        for (int k = 0; k < 4; k++) {
            Edges.due("one ward over, by its own room: key " + k, kinds.how(k), due[k]);
        }
    }

    /** The one ward of the edge of the rusty key 257 1, of the filed key 384 1, or of a cut of ward 0. */
    private static int wardLeft(int kind, int bent) {
        int one = kind == 3 ? (7 + bent) % 9 : bent % 9;
        int other = (8 + bent) % 9;
        return kind == 1 ? Math.min(one, other) : kind == 3 ? Math.max(one, other) : one;
    }

    private static void howAsked() {
        Edges.promise(26, "HOW, by bits.");
        Edges.foretold(Edges::busy, "of the brass key, broken", 1, x -> x.how(0));
        Edges.due("of no such cut", Check.told("master 0;lock 5 1 0 0").how(0), 511);
        Edges.promise(26, "UNKNOWN.");
        for (int far : new int[] {Edges.MIN, -1, 4, 7, Edges.MAX}) {
            Edges.refused(Edges::busy, "how " + far, Edges.UNKNOWN, x -> x.how(far));
        }
        Edges.due("of a new object", new WardWalkers().how(0), Edges.UNKNOWN);
    }

    private static void oddsOfAll() {
        Edges.says("ODDS of a set of KEYS (bits), a LOCK, m (0 .. 7): of these, m unlike ones are drawn, each such set alike (all, if there are not so many): the odds that one of them at least GOES there");
        WardWalkers x = Check.told("brass 1;" + Edges.with("", "brass 2", 6) + ";lock 5 1 0 0;lock 5 0 3 0;lock 5 511 0 0");
        for (int m = 0; m <= 7; m++) {
            Edges.due("one of seven goes, above", x.odds(127, 0, m, 0), m == 0 ? 0 : m == 7 ? 1 : m);
            Edges.due("one of seven goes, below", x.odds(127, 0, m, 1), m == 0 || m == 7 ? 1 : 7);
            Edges.due("all go, above", x.odds(127, 1, m, 0), m == 0 ? 0 : 1);
            Edges.due("all go, below", x.odds(127, 1, m, 1), 1);
            Edges.due("none goes, above", x.odds(127, 2, m, 0), 0);
            Edges.due("none goes, below", x.odds(127, 2, m, 1), 1);
            Edges.due("of two, above", x.odds(65, 0, m, 0), m == 0 ? 0 : 1);
            Edges.due("of two, below", x.odds(65, 0, m, 1), m == 1 ? 2 : 1);
            Edges.due("of one that goes", x.odds(1, 0, m, 0), m == 0 ? 0 : 1);
            Edges.due("of one that does not", x.odds(64, 0, m, 0), 0);
        }
        for (int going = 0; going <= 7; going++) {
            oddsOfEachSet(going);
        }
    }

    /** Of seven keys the first ones go; each set of them, each m. */
    private static void oddsOfEachSet(int going) {
        WardWalkers x = Check.told(Edges.with(Edges.with("lock 5 1 0 0", "brass 1", going), "brass 2", 7 - going));
        for (int set = 1; set < 128; set++) {
            for (int m = 0; m <= 7; m++) {
                int drawn = Math.min(m, Integer.bitCount(set));
                int all = 0;
                int good = 0;
                for (int draw = 0; draw < 128; draw++) {
                    if ((draw & ~set) == 0 && Integer.bitCount(draw) == drawn) {
                        all++;
                        good += (draw & (1 << going) - 1) != 0 ? 1 : 0;
                    }
                }
                int by = all;
                while (good % by != 0 || all % by != 0) {
                    by--;
                }
                Edges.due("of " + set + ", m " + m + ", above", x.odds(set, 0, m, 0), good / by);
                Edges.due("of " + set + ", m " + m + ", below", x.odds(set, 0, m, 1), all / by);
            }
        }
    }

    private static void oddsOfNone() {
        Edges.says("Of no KEYS it is shared among none (ZERO)");
        for (int m = 0; m <= 7; m++) {
            for (int part = 0; part < 2; part++) {
                int drawn = m;
                int told = part;
                Edges.refused(Edges::busy, "of no keys", Edges.ZERO, x -> x.odds(0, 0, drawn, told));
            }
        }
        Edges.due("there are no keys", Check.told("lock 5 1 0 0").odds(0, 0, 1, 0), Edges.ZERO);
    }

    private static void oddsAsked() {
        Edges.promise(27, "ODDS.");
        Edges.foretold(Edges::busy, "of two that go of four, one", 1, x -> x.odds(15, 0, 1, 0));
        Edges.foretold(Edges::busy, "of two that go of four, one", 2, x -> x.odds(15, 0, 1, 1));
        Edges.foretold(Edges::busy, "of two that go of four, two", 5, x -> x.odds(15, 0, 2, 0));
        Edges.foretold(Edges::busy, "of two that go of four, two", 6, x -> x.odds(15, 0, 2, 1));
        Edges.promise(27, "UNKNOWN; OUTSIDE; ZERO.");
        for (int set : new int[] {16, 17, 31, 128, 1 << 30, -1, -16, Edges.MIN, Edges.MIN | 1, Edges.MAX}) {
            Edges.refused(Edges::busy, "a set with bits of no key: " + set, Edges.UNKNOWN, x -> x.odds(set, 0, 1, 0));
            Edges.refused(Edges::busy, "ahead of OUTSIDE: " + set, Edges.UNKNOWN, x -> x.odds(set, 0, 8, 2));
        }
        for (int far : new int[] {Edges.MIN, -1, 3, 7, Edges.MAX}) {
            Edges.refused(Edges::busy, "lock " + far, Edges.UNKNOWN, x -> x.odds(1, far, 1, 0));
            Edges.refused(Edges::busy, "ahead of the others: lock " + far, Edges.UNKNOWN, x -> x.odds(0, far, 8, 2));
        }
        for (int far : new int[] {Edges.MIN, -1, 8, Edges.MAX}) {
            Edges.refused(Edges::busy, "m " + far, Edges.OUTSIDE, x -> x.odds(1, 0, far, 0));
            Edges.refused(Edges::busy, "ahead of ZERO: m " + far, Edges.OUTSIDE, x -> x.odds(0, 0, far, 0));
        }
        for (int far : new int[] {Edges.MIN, -1, 2, Edges.MAX}) {
            Edges.refused(Edges::busy, "part " + far, Edges.OUTSIDE, x -> x.odds(1, 0, 1, far));
            Edges.refused(Edges::busy, "ahead of ZERO: part " + far, Edges.OUTSIDE, x -> x.odds(0, 0, 1, far));
        }
    }
}
