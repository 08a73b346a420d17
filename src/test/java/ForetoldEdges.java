/** Boundary sentences of section 3's first half, and of promises 18 to 22. */
final class ForetoldEdges {
    private ForetoldEdges() { }

    static void all() {
        nothingChanges();
        openOrNotBrokenOrNot();
        belongsAndOpeners();
        twins();
        matchOfMost();
        matchAsked();
        workForN();
        workThatDoesNotCount();
        workAsked();
    }

    private static void nothingChanges() {
        Edges.says("FORETOLD (nothing changes)");
        Edges.foretold(Edges::busy, "belongs", 1, x -> x.belongs(0));
        Edges.foretold(Edges::busy, "openers", 14, x -> x.openers(1));
        Edges.foretold(Edges::busy, "twins", 1, x -> x.twins(Edges.NONE));
        Edges.foretold(Edges::busy, "a twin", 13, x -> x.twins(0));
        Edges.foretold(Edges::busy, "match", 1, x -> x.match(Edges.NONE));
        Edges.foretold(Edges::busy, "match of a lock", 1, x -> x.match(1));
        Edges.foretold(Edges::busy, "work", 2, x -> x.work(1));
    }

    private static void openOrNotBrokenOrNot() {
        Edges.says("LOCKS into which it GOES now (open or not, BROKEN or not)");
        WardWalkers x = Edges.busy();
        Edges.due("a broken key, an open lock", x.belongs(0), 1);
        Edges.due("a bent key", x.belongs(1), 2);
        Edges.says("KEYS that GO there, likewise");
        Edges.due("an open lock, a broken key", x.openers(0), 5);
    }

    private static void belongsAndOpeners() {
        Edges.promise(18, "BELONGS, by bits.");
        WardWalkers all = Check.told(Edges.with(Edges.with("", "master 511", 7), "lock 5 511 0 1", 7));
        WardWalkers none = Check.told(Edges.with(Edges.with("", "master 0", 7), "lock 5 511 0 1", 7));
        WardWalkers alone = Check.told("master 0");
        WardWalkers locked = Check.told("lock 5 0 0 1");
        Edges.due("to all", all.belongs(6), 127);
        Edges.due("to none", none.belongs(6), 0);
        Edges.due("there are no locks", alone.belongs(0), 0);
        Edges.promise(18, "UNKNOWN.");
        Edges.promise(19, "OPENERS, by bits.");
        Edges.due("all", all.openers(6), 127);
        Edges.due("none", none.openers(6), 0);
        Edges.due("there are no keys", locked.openers(0), 0);
        Edges.promise(19, "UNKNOWN.");
        for (int far : new int[] {4, 7, -1, Edges.MIN, Edges.MAX}) {
            Edges.refused(Edges::busy, "belongs " + far, Edges.UNKNOWN, x -> x.belongs(far));
            Edges.refused(Edges::busy, "openers " + far, Edges.UNKNOWN, x -> x.openers(far));
        }
        Edges.refused(Edges::busy, "openers 3", Edges.UNKNOWN, x -> x.openers(3));
        Edges.due("belongs of a new object", new WardWalkers().belongs(0), Edges.UNKNOWN);
        Edges.due("openers of a new object", new WardWalkers().openers(0), Edges.UNKNOWN);
    }

    private static void twins() {
        Edges.says("pairs of KEYS (10 times the lesser, and the other) that BELONG to the same LOCKS, one at least: how many; the i-th (rising)");
        WardWalkers none = Check.told("brass 1;brass 1;brass 1;lock 5 2 0 1");
        Edges.due("belonging to none is not enough", none.twins(Edges.NONE), 0);
        Edges.due("so there is no first", none.twins(0), Edges.NONE);
        Edges.due("one key", Check.told("master 1;lock 5 1 0 1").twins(Edges.NONE), 0);
        Edges.due("some, but not the same", Check.told("master 3;brass 1;lock 5 1 0 1;lock 5 2 0 1").twins(Edges.NONE), 0);
        Edges.promise(20, "TWINS: how many (i NONE), the i-th (0 .. 20); NONE: there are not so many.");
        WardWalkers all = Check.told(Edges.with("", "brass 1", 7) + ";lock 5 1 0 1");
        Edges.due("as many as can be", all.twins(Edges.NONE), 21);
        int i = 0;
        for (int lesser = 0; lesser < 7; lesser++) {
            for (int other = lesser + 1; other < 7; other++) {
                Edges.due("twins " + i, all.twins(i), 10 * lesser + other);
                i++;
            }
        }
        WardWalkers two = Check.told("brass 1;brass 1;lock 5 1 0 1");
        Edges.due("one pair", two.twins(Edges.NONE), 1);
        Edges.due("the only one", two.twins(0), 1);
        Edges.due("not so many", two.twins(1), Edges.NONE);
        Edges.due("not so many", two.twins(20), Edges.NONE);
        Edges.due("of no keys", new WardWalkers().twins(Edges.NONE), 0);
        Edges.due("of no keys", new WardWalkers().twins(20), Edges.NONE);
        Edges.promise(20, "OUTSIDE.");
        for (int far : new int[] {-2, 21, Edges.MIN, Edges.MAX}) {
            Edges.refused(Edges::busy, "twins " + far, Edges.OUTSIDE, x -> x.twins(far));
            Edges.due("of no keys " + far, new WardWalkers().twins(far), Edges.OUTSIDE);
        }
    }

    private static void matchOfMost() {
        Edges.says("LOCKS that are shut get a KEY each that GOES there, is not BROKEN, of unlike ones: most LOCKS; of several ways the first (LOCK by LOCK the lesser KEY, none last)");
        WardWalkers all = Check.told(Edges.with(Edges.with("", "master 511", 7), "lock 5 511 0 1", 7));
        Edges.due("as many as can be", all.match(Edges.NONE), 7);
        for (int l = 0; l < 7; l++) {
            Edges.due("lock by lock the lesser key", all.match(l), l);
        }
        // lock 1 must leave key 1, its lesser one, to lock 2
        WardWalkers chain = Check.told("brass 7;brass 1;brass 3;lock 0 1 2 0;lock 0 1 1 0;lock 0 1 0 0");
        Edges.due("three", chain.match(Edges.NONE), 3);
        Edges.due("lock 0", chain.match(0), 0);
        Edges.due("lock 1", chain.match(1), 2);
        Edges.due("lock 2", chain.match(2), 1);
        WardWalkers last = Check.told("master 3;lock 0 1 0 0;lock 0 2 0 0");
        Edges.due("a key rather than none", last.match(0), 0);
        Edges.due("none last", last.match(1), Edges.NONE);
        WardWalkers most = Check.told("master 3;brass 1;lock 0 1 0 0;lock 0 3 0 0");
        Edges.due("most locks", most.match(Edges.NONE), 2);
        Edges.due("not the lesser key", most.match(0), 1);
        Edges.due("which lock 1 has", most.match(1), 0);
        for (int k = 0; k < 7; k++) {
            WardWalkers one = Check.told(Edges.with(Edges.with(Edges.with("", "brass 2", k) + (k == 0 ? "" : ";") + "brass 1", "brass 2", 6 - k), "lock 0 1 0 0", 2));
            Edges.due("key " + k + " alone, for two locks", one.match(Edges.NONE), 1);
            Edges.due("the first lock has it", one.match(0), k);
            Edges.due("the other none", one.match(1), Edges.NONE);
        }
        WardWalkers busy = Edges.busy();
        Edges.due("an open lock has none", busy.match(0), Edges.NONE);
        busy.shut(0);
        Edges.due("a broken key is none", busy.match(0), 2);
        Edges.due("lock 1 has key 1 yet", busy.match(1), 1);
    }

    private static void matchAsked() {
        Edges.promise(21, "MATCH: how many (the LOCK NONE), the KEY of a LOCK; NONE.");
        Edges.due("of a new object", new WardWalkers().match(Edges.NONE), 0);
        Edges.due("of no keys", Check.told("lock 0 0 0 0").match(Edges.NONE), 0);
        Edges.due("of no keys", Check.told("lock 0 0 0 0").match(0), Edges.NONE);
        Edges.due("of no locks", Check.told("master 0").match(Edges.NONE), 0);
        Edges.due("no key goes", Check.told("master 0;lock 0 1 0 0").match(0), Edges.NONE);
        Edges.promise(21, "UNKNOWN.");
        for (int far : new int[] {-2, 3, 7, Edges.MIN, Edges.MAX}) {
            Edges.refused(Edges::busy, "match " + far, Edges.UNKNOWN, x -> x.match(far));
        }
        Edges.due("of a new object", new WardWalkers().match(0), Edges.UNKNOWN);
    }

    private static void workForN() {
        Edges.says("WORK for n LOCKS (1 .. 7): LOCKS that are shut, into which some KEY that is not BROKEN GOES, are shared among WALKERS, each of whom goes to its own in some order, from where it is, 2 MINUTES at each (KEYS are with all)");
        String locks = Edges.with("master 511", "lock 5 1 0 1", 7);
        int[][] due = {{2, 4, 6, 8, 10, 12, 14}, {2, 2, 4, 4, 6, 6, 8}, {2, 2, 2, 4, 4, 4, 6}};
        for (int walkers = 1; walkers <= 3; walkers++) {
            WardWalkers x = Check.told(Edges.with(locks, "walker 5", walkers));
            for (int n = 1; n <= 7; n++) {
                Edges.due(n + " locks by " + walkers, x.work(n), due[walkers - 1][n - 1]);
            }
        }
        WardWalkers y = Check.told("master 1;lock 0 1 0 0;lock 9 1 0 0;lock 90 1 0 0;lock 99 1 0 0;lock 50 1 0 0;lock 5 1 0 0;lock 55 1 0 0;walker 0");
        int[] far = {2, 9, 15, 23, 29, 39, 49};
        for (int n = 1; n <= 7; n++) {
            Edges.due("far apart, " + n, y.work(n), far[n - 1]);
        }
        WardWalkers busy = Edges.busy();
        Edges.due("lock 1 alone is shut and has a key", busy.work(1), 2);
        Edges.due("no key for lock 2, lock 0 is open", busy.work(2), Edges.NONE);
        busy.shut(0);
        Edges.due("lock 0 is shut, the master goes", busy.work(2), 4);
    }

    private static void workThatDoesNotCount() {
        Edges.says("the fewest MINUTES, from each WALKER's MINUTE on the same clock (DARK aside), till n of them are open (the latest WALKER's MINUTE; of one that has none to go to it does not count)");
        WardWalkers x = Check.told("dark 10;master 1;lock 8 0 0 0;lock 19 1 0 0;lock 99 1 0 0;walker 0;walker 99");
        x.tries(0, 0, 0);
        Edges.due("walker 0 is at dark", x.walker(0, 1), 10);
        Edges.due("its minute does not count", x.work(1), 2);
        Edges.due("walker 1 goes on, or walker 0 behind dark", x.work(2), 12);
        WardWalkers y = Check.told("dark 10;master 1;lock 99 1 0 0;walker 0");
        Edges.due("dark aside", y.work(1), 20);
        Edges.due("it can not be tried", y.tries(0, 0, 0), Edges.NOT);
        Edges.says("none (there are not so many such LOCKS, no WALKERS)");
        Edges.due("not so many", y.work(2), Edges.NONE);
        Edges.due("no walkers", Check.told("master 1;lock 99 1 0 0").work(1), Edges.NONE);
        Edges.due("no locks", Check.told("master 1;walker 9").work(1), Edges.NONE);
        Edges.due("no keys", Check.told("lock 9 0 0 0;walker 9").work(1), Edges.NONE);
        WardWalkers broken = Check.told("brass 1;lock 0 1 0 0;walker 0");
        for (int i = 0; i < 3; i++) {
            broken.tries(0, 0, 0);
            broken.shut(0);
        }
        Edges.due("the only key is broken", broken.work(1), Edges.NONE);
    }

    private static void workAsked() {
        Edges.promise(22, "WORK; NONE.");
        WardWalkers seven = Check.told(Edges.with("master 1;walker 5", "lock 5 1 0 0", 7));
        Edges.due("the least", seven.work(1), 2);
        Edges.due("the most", seven.work(7), 14);
        Edges.due("of a new object", new WardWalkers().work(7), Edges.NONE);
        Edges.promise(22, "OUTSIDE.");
        for (int far : new int[] {0, 8, -1, 31, 32, Edges.MIN, Edges.MAX}) {
            Edges.refused(Edges::busy, "work " + far, Edges.OUTSIDE, x -> x.work(far));
            Edges.due("ahead of NONE: work " + far, new WardWalkers().work(far), Edges.OUTSIDE);
        }
    }
}
