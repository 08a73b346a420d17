/** Boundary sentences of section 2 and of promises 11 to 17. */
final class DoneEdges {
    // each lock wants one ward: a key of two wards at most is bent by one of them, if it is no master
    private static final String BENDERS = "dark 99;lock 0 16 0 1;lock 0 32 0 2;lock 0 64 0 3;walker 0;";
    // with a brass key of cut 1: key 0 goes into lock 0, turns there, and is bent by lock 1
    private static final String TURNERS = "dark 99;lock 0 1 0 3;lock 0 2 0 4;walker 0;brass 1";

    private DoneEdges() { }

    static void all() {
        goesRound();
        rustAndFiling();
        lackingAndOver();
        rooms();
        brokenAtThree();
        notLaterThanDark();
        opening();
        oneWardLacking();
        bentBehindEight();
        shutting();
        mendedAndDays();
        kinds();
        tries();
        shutAndMend();
        lastDay();
        undo();
        keepAndBack();
    }

    private static void goesRound() {
        Edges.says("A KEY BENT b times (0 .. 8) has its CUT go round: WARD w is WARD w and b, left over by 9");
        for (int cut : new int[] {1, 2, 4, 8, 16, 32, 64, 128, 256, 257, 384, 129}) {
            for (int times = 0; times <= 8; times++) {
                WardWalkers x = Check.told(BENDERS + "brass " + cut + ";rusty " + cut + " 0;filed " + cut + " 0");
                int round = 0;
                for (int ward = 0; ward < 9; ward++) {
                    round |= (cut >> ward & 1) << (ward + times) % 9;
                }
                for (int k = 0; k < 3; k++) {
                    Edges.bend(x, k, times);
                    Edges.due("bent", x.key(k, 3), times);
                    Edges.due("edge of " + cut, x.key(k, 5), round);
                    Edges.due("cut", x.key(k, 1), cut);
                    x.day();
                }
            }
        }
        WardWalkers y = Check.told(BENDERS + "brass 0;brass 256");
        Edges.bend(y, 0, 8);
        Edges.due("no wards go round", y.key(0, 5), 0);
        y.day();
        Edges.bend(y, 1, 1);
        Edges.due("ward 8 becomes ward 0", y.key(1, 5), 1);
    }

    private static void rustAndFiling() {
        Edges.says("of a RUSTY one as of a BRASS one, without its highest WARDS, as many as RUST (all, if there are not more)");
        int[][] rusty = {{0, 0, 0}, {0, 9, 0}, {1, 0, 1}, {1, 1, 0}, {1, 2, 0}, {256, 1, 0}, {273, 1, 17}, {273, 2, 1}, {273, 3, 0},
            {273, 4, 0}, {511, 8, 1}, {511, 9, 0}, {510, 8, 0}, {510, 7, 2}};
        for (int[] r : rusty) {
            Edges.due("rusty " + r[0] + " " + r[1], Check.told("rusty " + r[0] + " " + r[1]).key(0, 5), r[2]);
        }
        WardWalkers x = Check.told(BENDERS + "rusty 288 1;filed 288 1");
        Edges.bend(x, 0, 1);
        Edges.due("the highest behind the bending: of 0 and 6", x.key(0, 5), 1);
        Edges.says("of a MASTER as of a BRASS one");
        for (int cut : new int[] {0, 1, 256, 511}) {
            Edges.due("master " + cut, Check.told("master " + cut).key(0, 5), cut);
            Edges.due("brass " + cut, Check.told("brass " + cut).key(0, 5), cut);
        }
        Edges.says("of a FILED one the CUT so, without its lowest WARDS, as many as were filed off (all, if there are not more)");
        int[][] filed = {{0, 0, 0}, {0, 9, 0}, {1, 0, 1}, {1, 1, 0}, {1, 2, 0}, {256, 1, 0}, {273, 1, 272}, {273, 2, 256}, {273, 3, 0},
            {273, 4, 0}, {511, 8, 256}, {511, 9, 0}, {255, 8, 0}, {255, 7, 128}};
        for (int[] f : filed) {
            Edges.due("filed " + f[0] + " " + f[1], Check.told("filed " + f[0] + " " + f[1]).key(0, 5), f[2]);
        }
        Edges.bend(x, 1, 1);
        Edges.due("the lowest behind the bending: of 0 and 6", x.key(1, 5), 64);
    }

    private static void lackingAndOver() {
        Edges.says("LACKING are WARDS WANTED that the EDGE has not, OVER those that it has and that are not WANTED");
        int[][] due = {{0, 0, 0, 0}, {0, 511, 9, 0}, {511, 0, 0, 9}, {511, 511, 0, 0}, {256, 1, 1, 1}, {255, 256, 1, 8}, {85, 170, 4, 4}};
        for (int[] d : due) {
            WardWalkers x = Check.told("brass " + d[0] + ";lock 0 " + d[1] + " 3 1");
            Edges.due("lacking of " + d[0] + " in " + d[1], x.goes(0, 0, 0), d[2]);
            Edges.due("over of " + d[0] + " in " + d[1], x.goes(0, 0, 1), d[3]);
        }
    }

    private static void rooms() {
        Edges.says("It GOES, if none is LACKING and no more are OVER than there is ROOM");
        Edges.due("one lacking, none over", Check.told("master 1;lock 0 3 3 1").goes(0, 0, 2), 0);
        Edges.due("none lacking, none over", Check.told("brass 3;lock 0 3 0 1").goes(0, 0, 2), 1);
        Edges.says("of a BRASS one PLAY; of a RUSTY one as of a BRASS one and 1 more; of a MASTER 9; of a FILED one PLAY");
        String[] words = {"brass 511", "rusty 511 0", "master 511", "filed 511 0"};
        for (int kind = 0; kind < 4; kind++) {
            for (int play = 0; play <= 3; play++) {
                int room = kind == 2 ? 9 : kind == 1 ? play + 1 : play;
                for (int over = 0; over <= 9; over++) {
                    WardWalkers x = Check.told(words[kind] + ";lock 0 " + (511 >> over) + " " + play + " 1;walker 0");
                    Edges.due(words[kind] + ", play " + play + ", over " + over, x.goes(0, 0, 2), over <= room ? 1 : 0);
                    Edges.due("tried so", x.tries(0, 0, 0), over <= room ? 2 : 0);
                }
            }
        }
    }

    private static void brokenAtThree() {
        Edges.says("BROKEN is a KEY that TURNED 3 times");
        WardWalkers x = Check.told(TURNERS);
        for (int turned = 0; turned < 3; turned++) {
            Edges.due("turned", x.key(0, 4), turned);
            Edges.due("broken yet", x.key(0, 6), 0);
            Edges.due("broken bits", x.count(6), 0);
            Edges.due("opens", x.tries(0, 0, 0), 2);
            Edges.due("shut", x.shut(0), 3);
        }
        Edges.due("turned", x.key(0, 4), 3);
        Edges.due("broken", x.key(0, 6), 1);
        Edges.due("broken bits", x.count(6), 1);
        Edges.due("it is tried no more", x.tries(0, 0, 0), Edges.NOT);
        Edges.due("the shutting undone", x.undo(), 5);
        Edges.due("broken yet", x.key(0, 6), 1);
        Edges.due("the third turn undone", x.undo(), 4);
        Edges.due("it is not broken", x.key(0, 6), 0);
        Edges.due("opens", x.tries(0, 0, 0), 2);
        Edges.due("broken again", x.key(0, 6), 1);
    }

    private static void notLaterThanDark() {
        Edges.says("A WALKER TRIES a KEY (not BROKEN) in a LOCK (shut): it goes there, then 2 MINUTES go by for it; it must not be later than DARK for it then");
        for (int dark : new int[] {10, 11, 19}) {
            // lock 0 lies so far that just dark - 2 minutes lead there, lock 1 one row on
            int far = dark - 2 <= 9 ? dark - 2 : 9 + 10 * (dark - 11);
            Edges.Maker maker = () -> Check.told("dark " + dark + ";master 1;lock " + far + " 1 0 4;lock " + (far + 10) + " 1 0 5;walker 0");
            Edges.refused(maker, "one minute later than dark " + dark, Edges.NOT, x -> x.tries(0, 0, 1));
            WardWalkers x = maker.make();
            Edges.due("just at dark", x.tries(0, 0, 0), 2);
            Edges.due("its minute", x.walker(0, 1), dark);
            Edges.due("where it is then", x.walker(0, 0), far);
            Edges.due("later", x.tries(0, 0, 1), Edges.NOT);
        }
    }

    private static void opening() {
        Edges.says("If the KEY GOES, it has TURNED once more, the LOCK is open, its VALUE is FOUND");
        WardWalkers x = Check.told("dark 99;master 0;lock 0 0 0 0;lock 0 0 0 30;walker 0");
        Edges.due("opens", x.tries(0, 0, 0), 2);
        Edges.due("the least value", x.count(7), 0);
        Edges.due("opens", x.tries(0, 0, 1), 2);
        Edges.due("the most value", x.count(7), 30);
        Edges.due("turned", x.key(0, 4), 2);
        Edges.due("open", x.count(5), 3);
        x.shut(1);
        Edges.due("shut, it can be opened", x.tries(0, 0, 1), 2);
        Edges.due("and is found once more", x.count(7), 60);
    }

    private static void oneWardLacking() {
        Edges.says("Else, if just one WARD is LACKING and the KEY is no MASTER, it is BENT once more");
        String[] words = {"brass", "rusty", "master", "filed"};
        for (int kind = 0; kind < 4; kind++) {
            String mark = kind % 2 == 1 ? " 0" : "";
            for (int lacking = 0; lacking <= 9; lacking++) {
                WardWalkers x = Check.told(words[kind] + " 0" + mark + ";lock 0 " + (511 >> 9 - lacking) + " 0 1;walker 0");
                int due = lacking == 0 ? 2 : lacking == 1 && kind != 2 ? 1 : 0;
                Edges.due(words[kind] + ", lacking " + lacking, x.tries(0, 0, 0), due);
                Edges.due("bent", x.key(0, 3), due == 1 ? 1 : 0);
                Edges.due("turned", x.key(0, 4), due == 2 ? 1 : 0);
                Edges.due("open", x.count(5), due == 2 ? 1 : 0);
            }
        }
        WardWalkers y = Check.told("brass 6;brass 62;lock 0 3 0 1;lock 0 2 3 1;walker 0");
        Edges.due("one lacking and one over", y.tries(0, 0, 0), 1);
        Edges.due("none lacking, one over too many", y.tries(0, 1, 1), 0);
        Edges.due("it is not bent", y.key(1, 3), 0);
    }

    private static void bentBehindEight() {
        Edges.says("(behind 8 comes 0)");
        for (String key : new String[] {"brass 1", "rusty 1 0", "filed 1 0"}) {
            WardWalkers x = Check.told(BENDERS + key);
            for (int times = 1; times <= 20; times++) {
                Edges.bend(x, 0, 1);
                Edges.due("bent", x.key(0, 3), times % 9);
                Edges.due("edge", x.key(0, 5), 1 << times % 9);
            }
        }
    }

    private static void shutting() {
        Edges.says("A LOCK that is open can be SHUT (its VALUE was FOUND)");
        WardWalkers x = Check.told("dark 99;master 1;lock 0 1 0 30;lock 0 0 0 0;walker 0");
        Edges.due("a lock that is shut", x.shut(0), Edges.NOT);
        x.tries(0, 0, 0);
        x.tries(0, 0, 1);
        Edges.due("the most value", x.shut(0), 30);
        Edges.due("found yet", x.count(7), 30);
        Edges.due("the least value", x.shut(1), 0);
        Edges.due("all are shut", x.count(5), 0);
        Edges.due("shut again", x.shut(0), Edges.NOT);
    }

    private static void mendedAndDays() {
        Edges.says("A KEY is MENDED: not BENT, it has TURNED 0 times");
        WardWalkers x = Check.told(TURNERS + ";brass 8");
        x.tries(0, 0, 0);
        x.tries(0, 0, 1);
        Edges.due("once bent, once turned", x.mend(0), 2);
        Edges.due("bent", x.key(0, 3), 0);
        Edges.due("turned", x.key(0, 4), 0);
        Edges.due("edge", x.key(0, 5), 1);
        Edges.says("A DAY: MINUTE 0 for each WALKER, who stays where it is; the next DAY");
        WardWalkers y = Check.told("master 0;lock 9 0 0 1;lock 90 0 0 1;lock 99 0 0 1;walker 0;walker 0;walker 0");
        for (int w = 0; w < 3; w++) {
            y.tries(w, 0, w);
        }
        Edges.due("the first day", y.day(), 1);
        for (int w = 0; w < 3; w++) {
            Edges.due("minute", y.walker(w, 1), 0);
            Edges.due("place", y.walker(w, 0), new int[] {9, 90, 99}[w]);
        }
        Edges.due("of no walkers", new WardWalkers().day(), 1);
    }

    private static void kinds() {
        Edges.says("KINDS of KEYS are over one another: KEY (0); BRASS (1) under it; RUSTY (2) is BRASS; MASTER (3) is BRASS; FILED (4) is a KEY");
        WardWalkers x = Check.told("brass 1;rusty 1 0;master 1;filed 1 0");
        String[] are = {"11000", "11100", "11010", "10001"};
        for (int k = 0; k < 4; k++) {
            for (int kind = 0; kind < 5; kind++) {
                Edges.due("key " + k + " is of kind " + kind, x.as(k, kind) == Edges.NOT ? 0 : 1, are[k].charAt(kind) - '0');
            }
        }
    }

    private static void tries() {
        Edges.promise(11, "A WALKER TRIES: 2 the LOCK is open, 1 the KEY is BENT once more, 0 neither.");
        Edges.due("2", Edges.busy().tries(0, 3, 1), 2);
        Edges.due("0", Edges.busy().tries(0, 3, 2), 0);
        Edges.due("1", Check.told("brass 1;lock 0 2 0 1;walker 0").tries(0, 0, 0), 1);
        Edges.promise(11, "UNKNOWN; NOT: the KEY is BROKEN, the LOCK is open, it would be later than DARK.");
        for (int far : new int[] {Edges.MIN, -1, 4, 7, Edges.MAX}) {
            Edges.refused(Edges::busy, "walker " + far, Edges.UNKNOWN, x -> x.tries(far, 2, 1));
            Edges.refused(Edges::busy, "key " + far, Edges.UNKNOWN, x -> x.tries(0, far, 1));
            Edges.refused(Edges::busy, "lock " + far, Edges.UNKNOWN, x -> x.tries(0, 2, far));
            Edges.refused(Edges::busy, "walker " + far + ", ahead of NOT", Edges.UNKNOWN, x -> x.tries(far, 0, 0));
            Edges.refused(Edges::busy, "key " + far + ", ahead of NOT", Edges.UNKNOWN, x -> x.tries(0, far, 0));
            Edges.refused(Edges::busy, "lock " + far + ", ahead of NOT", Edges.UNKNOWN, x -> x.tries(0, 0, far));
        }
        Edges.refused(Edges::busy, "walker 2", Edges.UNKNOWN, x -> x.tries(2, 2, 1));
        Edges.refused(Edges::busy, "lock 3", Edges.UNKNOWN, x -> x.tries(0, 2, 3));
        Edges.refused(Edges::busy, "the key is broken", Edges.NOT, x -> x.tries(0, 0, 1));
        Edges.refused(Edges::busy, "the lock is open", Edges.NOT, x -> x.tries(0, 2, 0));
        Edges.refused(() -> Check.told("dark 19;master 1;lock 99 1 0 1;walker 0"), "later than dark", Edges.NOT, x -> x.tries(0, 0, 0));
    }

    private static void shutAndMend() {
        Edges.promise(12, "A LOCK is SHUT: its VALUE.");
        Edges.due("value", Edges.busy().shut(0), 5);
        Edges.promise(12, "UNKNOWN; NOT: it is shut.");
        for (int lock : new int[] {3, 7, -1, 32, Edges.MIN, Edges.MAX}) {
            Edges.refused(Edges::busy, "lock " + lock, Edges.UNKNOWN, x -> x.shut(lock));
        }
        Edges.refused(Edges::busy, "it is shut", Edges.NOT, x -> x.shut(1));
        Edges.promise(13, "A KEY is MENDED: how often it was BENT and had TURNED together.");
        Edges.due("turned 3", Edges.busy().mend(0), 3);
        Edges.due("bent 1", Edges.busy().mend(1), 1);
        WardWalkers y = turnedAndBent("lock 0 4 0 0", 9);
        Edges.due("its ward has come round", y.tries(0, 0, 0), 2);
        Edges.due("turned 3, bent 9 times, which is none", y.mend(0), 3);
        WardWalkers z = turnedAndBent("lock 0 256 0 0", 8);
        Edges.due("it turns as it is bent", z.tries(0, 0, 2), 2);
        Edges.due("the most: bent 8 times, turned 3 times", z.mend(0), 11);
        Edges.promise(13, "UNKNOWN; NOT: neither.");
        for (int key : new int[] {4, 7, -1, Edges.MIN, Edges.MAX}) {
            Edges.refused(Edges::busy, "key " + key, Edges.UNKNOWN, x -> x.mend(key));
        }
        Edges.refused(Edges::busy, "neither", Edges.NOT, x -> x.mend(2));
        Edges.refused(DoneEdges::bentNineTimes, "bent 9 times, which is none", Edges.NOT, x -> x.mend(0));
        Edges.due("mended again", z.mend(0), Edges.NOT);
    }

    /** Key 0 has turned twice in lock 0, and is bent so often. */
    private static WardWalkers turnedAndBent(String lock, int times) {
        WardWalkers x = Check.told("dark 99;brass 1;lock 0 1 0 0;lock 0 128 0 0;walker 0;" + lock);
        for (int i = 0; i < 2; i++) {
            x.tries(0, 0, 0);
            x.shut(0);
        }
        Edges.bend(x, 0, times);
        return x;
    }

    private static WardWalkers bentNineTimes() {
        WardWalkers x = Check.told(BENDERS + "brass 1");
        Edges.bend(x, 0, 9);
        return x;
    }

    private static void lastDay() {
        Edges.promise(14, "A DAY: the DAY.");
        WardWalkers x = new WardWalkers();
        for (int d = 1; d <= 500; d++) {
            Edges.due("day", x.day(), d);
        }
        Edges.promise(14, "FULL: it is DAY 999.");
        Edges.due("day 998 is not the last", dayed(998).day(), 999);
        Edges.refused(() -> dayed(999), "day 999 is the last", Edges.FULL, WardWalkers::day);
    }

    // no 512 calls lead there, but what the document says of it holds all the same
    private static WardWalkers dayed(int days) {
        WardWalkers x = Check.told("master 1;lock 1 1 0 1;walker 0");
        for (int d = 0; d < days; d++) {
            x.day();
        }
        return x;
    }

    private static void undo() {
        Edges.promise(15, "The latest tries(), shut(), mend(), day() is undone (the last 8 can be): how many can be undone yet.");
        for (int acts = 1; acts <= 18; acts++) {
            WardWalkers x = new WardWalkers();
            for (int d = 1; d <= acts; d++) {
                x.day();
                Edges.due("can be undone", x.count(11), Math.min(d, 8));
            }
            int can = Math.min(acts, 8);
            for (int left = can - 1; left >= 0; left--) {
                Edges.due("undone", x.undo(), left);
                Edges.due("the day then", x.count(4), acts - can + left);
            }
            Edges.due("no more", x.undo(), Edges.NOT);
            Edges.due("done again", x.day(), acts - can + 1);
            Edges.due("undone again", x.undo(), 0);
        }
        WardWalkers y = Check.told(TURNERS);
        y.tries(0, 0, 1);
        Edges.due("the bending, undone", y.undo(), 0);
        Edges.due("bent no more", y.key(0, 3), 0);
        Edges.due("its minute", y.walker(0, 1), 0);
        y.tries(0, 0, 0);
        Edges.due("shut", y.shut(0), 3);
        Edges.due("shut, undone", y.undo(), 1);
        Edges.due("open again", y.lock(0, 4), 1);
        Edges.due("mend", y.mend(0), 1);
        Edges.due("mend, undone", y.undo(), 1);
        Edges.due("turned again", y.key(0, 4), 1);
        Edges.due("tries, undone", y.undo(), 0);
        Edges.due("found no more", y.count(7), 0);
        WardWalkers far = Check.told("master 1;lock 99 1 0 3;lock 90 1 0 3;walker 0;walker 9");
        far.tries(0, 0, 0);
        far.tries(1, 0, 1);
        Edges.due("the later way, undone", far.undo(), 1);
        Edges.due("its walker is back", far.walker(1, 0), 9);
        Edges.due("the other is there", far.walker(0, 0), 99);
        Edges.due("the first way, undone", far.undo(), 0);
        Edges.due("its walker is back", far.walker(0, 0), 0);
        Edges.promise(15, "NOT: none.");
        Edges.refused(WardWalkers::new, "none in a new object", Edges.NOT, WardWalkers::undo);
        Edges.refused(DoneEdges::allUndone, "none behind all", Edges.NOT, WardWalkers::undo);
        WardWalkers z = Edges.busy();
        z.back(0);
        Edges.due("none behind back()", z.undo(), Edges.NOT);
    }

    private static WardWalkers allUndone() {
        WardWalkers x = Edges.busy();
        for (int i = 0; i < 7; i++) {
            Edges.due("undone", x.undo(), 6 - i);
        }
        return x;
    }

    private static void keepAndBack() {
        Edges.promise(16, "All as it is (but SEEN, RACKS, what can be undone) is kept (k 0, 1): the DAY.");
        WardWalkers x = Edges.busy();
        Edges.due("keep 0", x.keep(0), 1);
        Edges.due("keep 1", x.keep(1), 1);
        Edges.due("keeping is not done, it is not undone", x.count(11), 7);
        x.day();
        Edges.due("kept anew", x.keep(1), 2);
        x.forget();
        x.drop(1);
        Edges.due("back 0", x.back(0), 1);
        Edges.due("seen is not kept", x.count(9), 0);
        Edges.due("racks are not kept", x.count(10), 2);
        Edges.due("back 1", x.back(1), 2);
        everythingKept();
        Edges.promise(16, "UNKNOWN: no such k.");
        for (int k : new int[] {-1, 2, 32, Edges.MIN, Edges.MAX}) {
            Edges.refused(Edges::busy, "keep " + k, Edges.UNKNOWN, y -> y.keep(k));
        }
        Edges.promise(17, "It is as it was kept, nothing can be undone: the DAY.");
        WardWalkers z = Edges.busy();
        Edges.due("back", z.back(0), 0);
        Edges.due("the day", z.count(4), 0);
        Edges.due("the minute", z.walker(0, 1), 8);
        Edges.due("nothing can be undone", z.count(11), 0);
        Edges.due("back again", z.back(0), 0);
        Edges.promise(17, "UNKNOWN; NOT: nothing was kept since the last text.");
        for (int k : new int[] {-1, 2, 32, Edges.MIN, Edges.MAX}) {
            Edges.refused(Edges::busy, "back " + k, Edges.UNKNOWN, y -> y.back(k));
        }
        Edges.refused(Edges::busy, "nothing was kept as 1", Edges.NOT, y -> y.back(1));
        Edges.refused(DoneEdges::toldAgain, "kept ahead of the last text", Edges.NOT, y -> y.back(0));
        WardWalkers again = toldAgain();
        Edges.due("kept since", again.keep(1), 0);
        Edges.due("kept since", again.back(1), 0);
        Edges.due("kept ahead", again.back(0), Edges.NOT);
        WardWalkers refusedText = Edges.busy();
        Edges.due("a text with a fault is no text that landed", refusedText.land(), Edges.NOT);
        Edges.due("kept yet", refusedText.back(0), 0);
    }

    private static void everythingKept() {
        for (int k = 0; k < 2; k++) {
            WardWalkers x = Edges.busy();
            x.undo();
            x.undo();
            x.keep(k);
            Edges.due("the lock is open", x.lock(0, 4), 1);
            x.shut(0);
            x.mend(0);
            x.tries(0, 1, 1);
            x.tries(1, 2, 1);
            x.day();
            x.erase();
            Check.put(x, "land");
            Edges.due("back", x.back(k), 0);
            int[] due = {4, 3, 2, 30, 0, 1, 1, 15, 6, 2, 3, 0, 4};
            for (int what = 0; what <= 12; what++) {
                Edges.due("count(" + what + ")", x.count(what), due[what]);
            }
            Edges.due("turned", x.key(0, 4), 3);
            Edges.due("not bent yet", x.key(1, 3), 0);
            Edges.due("place", x.walker(1, 0), 0);
            Edges.due("minute", x.walker(1, 1), 0);
            Edges.due("the text is 'walk' again", x.fault(), 0);
            Check.put(x, "er 77");
            Edges.due("it lands", x.land(), 1);
            Edges.due("as it was told", x.walker(2, 0), 77);
        }
    }

    private static WardWalkers toldAgain() {
        WardWalkers x = Edges.busy();
        x.keep(1);
        x.erase();
        return Check.tell(x, "dark 50");
    }
}
