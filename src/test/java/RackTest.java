/** Racks: promises 28 to 35. */
public final class RackTest {
    private static final int MIN = Integer.MIN_VALUE, MAX = Integer.MAX_VALUE;

    public static void main(String[] args) {
        rackMade();
        hangInLanes();
        hangRefused();
        lookFarOut();
        copying();
        copyingRefused();
        dropping();
        sharing();
        filming();
        counting();
        Check.end("RackTest");
    }

    private static void rackMade() {
        WardWalkers x = new WardWalkers();
        for (int lane = 0; lane < 5; lane++) {
            Check.due("rack", x.rack(lane % 4, lane, 24 - lane), 24 - lane);
            Check.due("first thing", x.look(lane % 4, 0), 0);
            Check.due("last thing", x.look(lane % 4, 23 - lane), 0);
            Check.due("behind it", x.look(lane % 4, 24 - lane), WardWalkers.INDEX);
        }
        Check.due("racks", x.count(10), 4);
        Check.due("rack 4", x.rack(4, 9, 99), WardWalkers.UNKNOWN);
        Check.due("rack -1", x.rack(-1, 0, 1), WardWalkers.UNKNOWN);
        Check.due("lane 5", x.rack(0, 5, -1), WardWalkers.OUTSIDE);
        Check.due("lane -1", x.rack(0, -1, -1), WardWalkers.OUTSIDE);
        Check.due("25 things", x.rack(0, 0, 25), WardWalkers.OUTSIDE);
        Check.due("most things", x.rack(0, 0, MAX), WardWalkers.OUTSIDE);
        Check.due("fewer than none", x.rack(0, 0, -1), WardWalkers.SIZE);
        Check.due("least things", x.rack(0, 0, MIN), WardWalkers.SIZE);
        Check.due("nothing changes", x.look(0, 19), 0);
        x.rack(0, 2, 3);
        x.hang(0, 2, 1, 5);
        Check.due("a new row", x.rack(0, 2, 2), 2);
        Check.due("is of 0", x.look(0, 1), 0);
        Check.due("none", x.rack(0, 2, 0), 0);
        Check.due("it has no place", x.look(0, 0), WardWalkers.INDEX);
    }

    private static void hangInLanes() {
        WardWalkers x = new WardWalkers();
        long[][] due = {
            {0, 0x1_0000_0081L, 3000000000126L}, {0, 127, 127}, {0, 128, 3000000000127L}, {1, 0x18000, 3000000032767L},
            {1, 32767, 32767}, {2, 0x8000_0000L, 3000000000000L + 2147483647L % 1000003}, {2, -1, 3000000000000L},
            {2, 0x7_7FFF_FFFFL, 2147483647}, {3, -1, 3000000000000L}, {3, 5, 5}, {4, 2, 0}, {4, 3, 1}, {4, -1, 1}, {4, -2, 0}};
        for (long[] d : due) {
            int lane = (int) d[0];
            x.rack(0, lane, 2);
            Check.due("hang", x.hang(0, lane, 1, d[1]), 1);
            Check.due("look at " + d[1] + " of lane " + lane, x.look(0, 1), d[2]);
            Check.due("the other thing", x.look(0, 0), 0);
        }
    }

    private static void hangRefused() {
        WardWalkers x = new WardWalkers();
        Check.due("rack 4", x.hang(4, 9, 0, 1), WardWalkers.UNKNOWN);
        Check.due("rack -1", x.hang(-1, 0, 0, 1), WardWalkers.UNKNOWN);
        Check.due("lane 5", x.hang(0, 5, 0, 1), WardWalkers.OUTSIDE);
        Check.due("lane -1", x.hang(0, -1, 0, 1), WardWalkers.OUTSIDE);
        Check.due("missing", x.hang(0, 0, 0, 1), WardWalkers.NULL);
        x.rack(0, 3, 2);
        Check.due("another lane", x.hang(0, 2, 9, 1), WardWalkers.CAST);
        Check.due("place 2", x.hang(0, 3, 2, 1), WardWalkers.INDEX);
        Check.due("place -1", x.hang(0, 3, -1, 1), WardWalkers.INDEX);
        Check.due("far place", x.hang(0, 3, MAX, 1), WardWalkers.INDEX);
        Check.due("far place", x.hang(0, 3, MIN, 1), WardWalkers.INDEX);
        Check.due("nothing changes", x.look(0, 0) + x.look(0, 1), 0);
    }

    private static void lookFarOut() {
        WardWalkers x = new WardWalkers();
        Check.due("rack 4", x.look(4, 0), WardWalkers.UNKNOWN);
        Check.due("rack -1", x.look(-1, 0), WardWalkers.UNKNOWN);
        Check.due("missing", x.look(3, 99), WardWalkers.NULL);
        x.rack(3, 3, 1);
        Check.due("place 1", x.look(3, 1), WardWalkers.INDEX);
        Check.due("place -1", x.look(3, -1), WardWalkers.INDEX);
        long[][] due = {{1000000000000L, 1000000000000L}, {1000000000001L, 2000000000010L}, {-1, 3000000000000L},
            {-1000003, 3000001000002L}, {-1000004, 3000000000000L}, {Long.MIN_VALUE, 3000000675344L}, {Long.MAX_VALUE, 2000000675344L}};
        for (long[] d : due) {
            x.hang(3, 3, 0, d[0]);
            Check.due("look at " + d[0], x.look(3, 0), d[1]);
        }
    }

    private static WardWalkers twoRacks() {
        WardWalkers x = new WardWalkers();
        x.rack(0, 1, 6);
        x.rack(1, 1, 4);
        for (int i = 0; i < 6; i++) {
            x.hang(0, 1, i, i + 1);
        }
        return x;
    }

    private static void dueRow(WardWalkers x, int rack, int... things) {
        for (int i = 0; i < things.length; i++) {
            Check.due("thing " + i + " of rack " + rack, x.look(rack, i), things[i]);
        }
        Check.due("no more", x.look(rack, things.length), WardWalkers.INDEX);
    }

    private static void copying() {
        WardWalkers x = twoRacks();
        Check.due("copy", x.copy(0, 2, 1, 1, 3), 3);
        dueRow(x, 1, 0, 3, 4, 5);
        Check.due("copy up within itself", x.copy(0, 0, 0, 1, 5), 5);
        dueRow(x, 0, 1, 1, 2, 3, 4, 5);
        Check.due("copy down within itself", x.copy(0, 2, 0, 0, 4), 4);
        dueRow(x, 0, 2, 3, 4, 5, 4, 5);
        Check.due("in place", x.copy(0, 1, 0, 1, 5), 5);
        dueRow(x, 0, 2, 3, 4, 5, 4, 5);
        Check.due("to an earlier place of another", x.copy(0, 2, 1, 0, 4), 4);
        dueRow(x, 1, 4, 5, 4, 5);
        Check.due("none", x.copy(0, 6, 1, 4, 0), 0);
        dueRow(x, 1, 4, 5, 4, 5);
    }

    private static void copyingRefused() {
        WardWalkers x = twoRacks();
        Check.due("from 4", x.copy(4, 0, 2, 0, 1), WardWalkers.UNKNOWN);
        Check.due("from -1", x.copy(-1, 0, 2, 0, 1), WardWalkers.UNKNOWN);
        Check.due("to 4", x.copy(2, 0, 4, 0, 1), WardWalkers.UNKNOWN);
        Check.due("to -1", x.copy(2, 0, -1, 0, 1), WardWalkers.UNKNOWN);
        Check.due("from one missing", x.copy(2, -1, 0, 0, 1), WardWalkers.NULL);
        Check.due("to one missing", x.copy(0, 0, 2, 0, -1), WardWalkers.NULL);
        x.rack(2, 2, 3);
        Check.due("unlike lanes, ahead of a place", x.copy(0, -1, 2, 0, 1), WardWalkers.STORE);
        Check.due("unlike lanes, of none", x.copy(0, 0, 2, 0, 0), WardWalkers.STORE);
        int[][] index = {{-1, 0, 1}, {0, -1, 1}, {0, 0, -1}, {6, 0, 1}, {7, 0, 0}, {0, 4, 1}, {0, 5, 0}, {0, 0, 5}, {3, 0, 4},
            {0, 1, 4}, {0, 0, MAX}, {1, 1, MAX}, {MAX, 0, 1}, {0, MAX, 1}, {MAX, MAX, MAX}, {MIN, 0, 1}, {0, MIN, 1}, {0, 0, MIN}};
        for (int[] c : index) {
            Check.due("copy " + c[0] + " " + c[1] + " " + c[2], x.copy(0, c[0], 1, c[1], c[2]), WardWalkers.INDEX);
        }
        dueRow(x, 0, 1, 2, 3, 4, 5, 6);
        dueRow(x, 1, 0, 0, 0, 0);
    }

    private static void dropping() {
        WardWalkers x = twoRacks();
        Check.due("drop 4", x.drop(4), WardWalkers.UNKNOWN);
        Check.due("drop -1", x.drop(-1), WardWalkers.UNKNOWN);
        Check.due("drop, missing", x.drop(3), WardWalkers.NULL);
        Check.due("drop", x.drop(0), 6);
        Check.due("drop again", x.drop(0), WardWalkers.NULL);
        Check.due("look", x.look(0, 0), WardWalkers.NULL);
        Check.due("racks", x.count(10), 1);
    }

    private static void sharing() {
        WardWalkers x = twoRacks();
        Check.due("rack 4", x.share(4, 5), WardWalkers.UNKNOWN);
        Check.due("rack -1", x.share(-1, 0), WardWalkers.UNKNOWN);
        Check.due("part 2", x.share(2, 2), WardWalkers.OUTSIDE);
        Check.due("part -1", x.share(2, -1), WardWalkers.OUTSIDE);
        Check.due("missing", x.share(2, 0), WardWalkers.NULL);
        Check.due("no ints", x.share(0, 0), WardWalkers.CAST);
        x.rack(2, 2, 0);
        Check.due("shared among none", x.share(2, 0), WardWalkers.ZERO);
        Check.due("shared among none", x.share(2, 1), WardWalkers.ZERO);
        x.rack(2, 2, 24);
        Check.due("nothing shared", x.share(2, 0), 100000000000L);
        Check.due("nothing shared", x.share(2, 1), 1);
        for (int i = 0; i < 24; i++) {
            x.hang(2, 2, i, MIN);
        }
        Check.due("all the least", x.share(2, 0), 100000000000L + MIN);
        Check.due("all the least", x.share(2, 1), 1);
        x.hang(2, 2, 0, MAX);
        Check.due("one the greatest", x.share(2, 0), 100000000000L + (MAX + 23L * MIN) / 3);
        Check.due("one the greatest", x.share(2, 1), 8);
        x.rack(2, 2, 6);
        x.hang(2, 2, 3, 4);
        Check.due("4 of 6", x.share(2, 0), 100000000002L);
        Check.due("4 of 6", x.share(2, 1), 3);
        x.hang(2, 2, 0, -13);
        Check.due("-9 of 6", x.share(2, 0), 99999999997L);
        Check.due("-9 of 6", x.share(2, 1), 2);
    }

    private static void filming() {
        WardWalkers x = Check.told("brass 1;brass 2;lock 5 1 0 1;lock 5 2 0 1;lock 5 1 0 1");
        Check.due("key 2", x.film(2, 0, 0), WardWalkers.UNKNOWN);
        Check.due("key -1", x.film(-1, 0, 0), WardWalkers.UNKNOWN);
        Check.due("rack 4", x.film(0, 4, 0), WardWalkers.UNKNOWN);
        Check.due("rack -1", x.film(0, -1, 0), WardWalkers.UNKNOWN);
        Check.due("missing", x.film(0, 0, -1), WardWalkers.NULL);
        x.rack(0, 0, 5);
        Check.due("no booleans", x.film(0, 0, -1), WardWalkers.CAST);
        x.rack(0, 4, 5);
        x.hang(0, 4, 0, 1);
        x.hang(0, 4, 2, 1);
        Check.due("film", x.film(0, 0, 1), 3);
        dueRow(x, 0, 1, 1, 0, 1, 0);
        Check.due("to the end", x.film(1, 0, 2), 3);
        dueRow(x, 0, 1, 1, 0, 1, 0);
        for (int i : new int[] {-1, 3, 5, 6, MIN, MAX}) {
            Check.due("film from " + i, x.film(0, 0, i), WardWalkers.INDEX);
        }
        dueRow(x, 0, 1, 1, 0, 1, 0);
        Check.tell(x, "land;brass 1");
        Check.due("no locks", x.film(0, 0, 0), 0);
        Check.due("no locks, at the end", x.film(0, 0, 5), 0);
        Check.due("no locks, beyond the end", x.film(0, 0, 6), WardWalkers.INDEX);
        Check.due("no locks, below 0", x.film(0, 0, -1), WardWalkers.INDEX);
    }

    private static void counting() {
        WardWalkers x = Check.told("dark 70;brass 1;brass 2;lock 5 1 0 3;lock 5 2 0 4;lock 7 1 0 5;walker 5;walker 9");
        x.day();
        for (int i = 0; i < 3; i++) {
            x.tries(0, 1, 1);
            x.shut(1);
        }
        x.tries(1, 0, 0);
        x.tries(0, 0, 2);
        x.seen(0, 1);
        x.rack(1, 1, 1);
        x.rack(3, 1, 1);
        Check.put(x, "abc");
        int[] due = {2, 3, 2, 70, 1, 5, 2, 20, 10, 1, 2, 8, 3};
        for (int what = 0; what <= 12; what++) {
            Check.due("count(" + what + ")", x.count(what), due[what]);
        }
        Check.due("count(13)", x.count(13), WardWalkers.OUTSIDE);
        Check.due("count(-1)", x.count(-1), WardWalkers.OUTSIDE);
    }
}
