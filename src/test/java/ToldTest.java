/** What is told: promises 2 to 10. */
public final class ToldTest {
    public static void main(String[] args) {
        writeAndErase();
        faultsOfTokens();
        faultsOfBounds();
        faultsOfNumbersOfThings();
        clausesAtMost();
        landing();
        landingMakesAllNew();
        keysTold();
        locksAndWalkersTold();
        goesByWards();
        asKinds();
        Check.end("ToldTest");
    }

    private static void writeAndErase() {
        WardWalkers x = new WardWalkers();
        Check.due("write -1", x.write(-1), WardWalkers.OUTSIDE);
        Check.due("write 256", x.write(256), WardWalkers.OUTSIDE);
        Check.due("write 0", x.write(0), 1);
        Check.due("write 255", x.write(255), 2);
        Check.due("count 12", x.count(12), 2);
        Check.due("erase", x.erase(), 2);
        Check.due("erase again", x.erase(), 0);
        for (int i = 1; i <= 200; i++) {
            Check.due("write", x.write('a'), i);
        }
        Check.due("write, full", x.write('a'), WardWalkers.FULL);
        Check.due("write, outside ahead of full", x.write(256), WardWalkers.OUTSIDE);
        Check.due("count 12, full", x.count(12), 200);
        Check.due("erase, full", x.erase(), 200);
    }

    private static void faultsOfTokens() {
        WardWalkers x = new WardWalkers();
        Check.faultAt(x, "", 0);
        Check.faultAt(x, "   ", 3);
        Check.faultAt(x, "land", WardWalkers.NONE);
        Check.faultAt(x, "  land  ", WardWalkers.NONE);
        Check.faultAt(x, "land;", 5);
        Check.faultAt(x, "land; ", 6);
        Check.faultAt(x, ";land", 0);
        Check.faultAt(x, "land;;land", 5);
        Check.faultAt(x, "land;land", WardWalkers.NONE);
        Check.faultAt(x, "land ; land", WardWalkers.NONE);
        Check.faultAt(x, "lands", 0);
        Check.faultAt(x, "lan", 0);
        Check.faultAt(x, "bark 20", 0);
        Check.faultAt(x, "lockz 1 1 1 1", 0);
        Check.faultAt(x, "zlock 1 1 1 1", 0);
        Check.faultAt(x, "lock{", 4);
        Check.faultAt(x, "lock`", 4);
        Check.faultAt(x, "dark 30:", 7);
        Check.faultAt(x, "dark 30/", 7);
        Check.faultAt(x, "Land", 0);
        Check.faultAt(x, " land land", 6);
        Check.faultAt(x, "land 1", 5);
        Check.faultAt(x, "land.", 4);
        Check.faultAt(x, "land\tland", 4);
        Check.faultAt(x, "\nland", 0);
        Check.faultAt(x, "5", 0);
        Check.faultAt(x, "brass5", WardWalkers.NONE);
        Check.faultAt(x, "brass", 5);
        Check.faultAt(x, "brass ", 6);
        Check.faultAt(x, "brass;", 5);
        Check.faultAt(x, "brass x", 6);
        Check.faultAt(x, "brass -1", 6);
        Check.faultAt(x, "brass 5 6", 8);
        Check.faultAt(x, "brass 5x", 7);
        Check.faultAt(x, "brass 5land", 7);
        Check.faultAt(x, "rusty 5;", 7);
        Check.faultAt(x, "lock 1 2 3", 10);
        Check.faultAt(x, "lock 1 2 3 4;dark", 17);
        Check.faultAt(x, "walker " + (char) 178, 7);
        Check.faultAt(x, "land" + (char) 0, 4);
        Check.faultAt(x, "land" + (char) 160 + ";", 4);
    }

    private static void faultsOfBounds() {
        WardWalkers x = new WardWalkers();
        String[] fine = {"brass 0", "brass 511", "brass 001", "rusty 0 0", "rusty 511 9", "master 511", "filed 511 9",
            "lock 0 0 0 0", "lock 99 511 3 30", "walker 0", "walker 99", "dark 10", "dark 99", "dark 010"};
        for (String text : fine) {
            Check.faultAt(x, text, WardWalkers.NONE);
        }
        Check.faultAt(x, "brass 512", 6);
        Check.faultAt(x, "brass 0001", 6);
        Check.faultAt(x, "brass 99999999999", 6);
        Check.faultAt(x, "rusty 512 1", 6);
        Check.faultAt(x, "rusty 1 10", 8);
        Check.faultAt(x, "rusty 1 0000", 8);
        Check.faultAt(x, "master 512", 7);
        Check.faultAt(x, "filed 512 1", 6);
        Check.faultAt(x, "filed 1 10", 8);
        Check.faultAt(x, "lock 100 1 1 1", 5);
        Check.faultAt(x, "lock 9 512 1 1", 7);
        Check.faultAt(x, "lock 9 1 4 1", 9);
        Check.faultAt(x, "lock 9 1 3 31", 11);
        Check.faultAt(x, "walker 100", 7);
        Check.faultAt(x, "dark 9", 5);
        Check.faultAt(x, "dark 0", 5);
        Check.faultAt(x, "dark 100", 5);
    }

    private static void faultsOfNumbersOfThings() {
        WardWalkers x = new WardWalkers();
        String seven = "brass 1;rusty 1 1;master 1;filed 1 1;brass 1;brass 1;brass 1";
        Check.faultAt(x, seven + ";dark 20", WardWalkers.NONE);
        Check.faultAt(x, seven + "; filed 512", seven.length() + 2);
        Check.faultAt(x, seven + ";land;" + "brass 1;brass 1;brass 1;brass 1;brass 1;brass 1;brass 1;brass 1", seven.length() + 6 + 56);
        String locks = "lock 1 1 1 1;lock 1 1 1 1;lock 1 1 1 1;lock 1 1 1 1;lock 1 1 1 1;lock 1 1 1 1;lock 1 1 1 1";
        Check.faultAt(x, locks + ";lock 1 1 1 1", locks.length() + 1);
        Check.faultAt(x, locks + ";land;lock 1 1 1 1", WardWalkers.NONE);
        Check.faultAt(x, "walker 1;walker 1;walker 1;walker 1", 27);
        Check.faultAt(x, "walker 1;walker 1;walker 1;land;walker 1", WardWalkers.NONE);
        Check.tell(x, seven);
        Check.faultAt(x, "master 1", 0);
        Check.faultAt(x, "land;master 1", WardWalkers.NONE);
        Check.faultAt(x, "lock 1 1 1 1;master 1", 13);
        Check.tell(x, "walker 5;walker 6");
        Check.faultAt(x, "walker 1;walker 1", 9);
        Check.tell(x, locks);
        Check.faultAt(x, "lock 1 1 1 1", 0);
    }

    private static void clausesAtMost() {
        WardWalkers x = new WardWalkers();
        StringBuilder text = new StringBuilder("land");
        for (int i = 1; i < 20; i++) {
            text.append(";land");
        }
        Check.tell(x, text.toString());
        Check.faultAt(x, text + ";land", 99);
        Check.faultAt(x, text + ";", 99);
        Check.faultAt(x, text + " x", 100);
    }

    private static void landing() {
        WardWalkers x = new WardWalkers();
        Check.put(x, "brass 512");
        Check.due("land with a fault", x.land(), WardWalkers.NOT);
        Check.due("the text stays", x.count(12), 9);
        Check.due("nothing told", x.count(0), 0);
        x.erase();
        Check.put(x, "brass 3;lock 5 3 1");
        Check.due("land with a fault at its end", x.land(), WardWalkers.NOT);
        Check.due("nothing told", x.count(0), 0);
        Check.put(x, " 9");
        Check.due("land", x.land(), 2);
        Check.due("the text is empty", x.count(12), 0);
        Check.due("keys", x.count(0), 1);
        Check.due("locks", x.count(1), 1);
        Check.tell(x, "dark 33;walker 7");
        Check.due("earlier keys stay", x.count(0), 1);
        Check.due("dark", x.count(3), 33);
        Check.tell(x, "walker 8");
        Check.due("earlier walkers stay", x.count(2), 2);
        Check.due("earlier dark stays", x.count(3), 33);
        Check.due("rack", x.rack(1, 2, 3), 3);
        Check.tell(x, "brass 1;land;brass 2");
        Check.due("keys behind land", x.count(0), 1);
        Check.due("its cut", x.key(0, 1), 2);
        Check.due("locks behind land", x.count(1), 0);
        Check.due("walkers behind land", x.count(2), 0);
        Check.due("dark behind land", x.count(3), 60);
        Check.due("racks are not of the land", x.count(10), 1);
    }

    private static void landingMakesAllNew() {
        WardWalkers x = Check.told("brass 1;brass 3;lock 22 1 0 5;lock 22 7 0 0;walker 11");
        Check.due("tries", x.tries(0, 0, 0), 2);
        Check.due("tries", x.tries(0, 1, 1), 1);
        Check.due("seen", x.seen(0, 1), 1);
        x.day();
        x.tries(0, 1, 1);
        x.keep(0);
        x.keep(1);
        Check.tell(x, "dark 50");
        Check.due("day", x.count(4), 0);
        Check.due("place as told", x.walker(0, 0), 11);
        Check.due("minute", x.walker(0, 1), 0);
        Check.due("bent", x.key(1, 3), 0);
        Check.due("turned", x.key(0, 4), 0);
        Check.due("open", x.count(5), 0);
        Check.due("found", x.count(7), 0);
        Check.due("seen", x.count(9), 0);
        Check.due("to undo", x.count(11), 0);
        Check.due("undo", x.undo(), WardWalkers.NOT);
        Check.due("kept 0", x.back(0), WardWalkers.NOT);
        Check.due("kept 1", x.back(1), WardWalkers.NOT);
    }

    private static void keysTold() {
        WardWalkers x = Check.told("brass 21;rusty 471 2;master 511;filed 43 1;rusty 5 9;filed 5 2;filed 7 0");
        int[][] due = {
            {0, 21, 0, 0, 0, 21, 0}, {1, 471, 2, 0, 0, 87, 0}, {2, 511, 0, 0, 0, 511, 0}, {3, 43, 1, 0, 0, 42, 0},
            {1, 5, 9, 0, 0, 0, 0}, {3, 5, 2, 0, 0, 0, 0}, {3, 7, 0, 0, 0, 7, 0}};
        for (int k = 0; k < due.length; k++) {
            for (int what = 0; what < 7; what++) {
                Check.due("key(" + k + ", " + what + ")", x.key(k, what), due[k][what]);
            }
            Check.due("key, what 7", x.key(k, 7), WardWalkers.OUTSIDE);
            Check.due("key, what -1", x.key(k, -1), WardWalkers.OUTSIDE);
        }
        Check.due("key 7", x.key(7, 0), WardWalkers.UNKNOWN);
        Check.due("key -1", x.key(-1, 9), WardWalkers.UNKNOWN);
        edgesBent();
    }

    private static void edgesBent() {
        // each key lacks one ward of lock 0 as often as it is tried there
        WardWalkers x = Check.told("brass 257;rusty 259 1;filed 259 1;lock 0 4 3 0;lock 0 64 0 0;walker 0;dark 99");
        Check.due("bends", x.tries(0, 0, 0), 1);
        Check.due("ward 8 comes round to 0, ward 0 to 1", x.key(0, 5), 3);
        Check.due("bends", x.tries(0, 0, 1), 1);
        Check.due("twice", x.key(0, 5), 6);
        Check.due("bends", x.tries(0, 1, 1), 1);
        Check.due("rust takes the highest behind the bending", x.key(1, 5), 3);
        Check.due("bends", x.tries(0, 2, 1), 1);
        Check.due("filing takes the lowest behind the bending", x.key(2, 5), 6);
        Check.due("cut as told", x.key(2, 1), 259);
        for (int times = 2; times < 9; times++) {
            int lockThatBends = x.goes(0, 0, 0) == 1 ? 0 : 1;
            Check.due("bent", x.key(0, 3), times);
            Check.due("bends", x.tries(0, 0, lockThatBends), 1);
        }
        Check.due("behind 8 comes 0", x.key(0, 3), 0);
    }

    private static void locksAndWalkersTold() {
        WardWalkers x = Check.told("lock 12 21 0 7;lock 99 511 3 30;walker 11;walker 90;walker 0");
        int[][] due = {{12, 21, 0, 7, 0}, {99, 511, 3, 30, 0}};
        for (int l = 0; l < due.length; l++) {
            for (int what = 0; what < 5; what++) {
                Check.due("lock(" + l + ", " + what + ")", x.lock(l, what), due[l][what]);
            }
        }
        Check.due("lock, what 5", x.lock(0, 5), WardWalkers.OUTSIDE);
        Check.due("lock, what -1", x.lock(0, -1), WardWalkers.OUTSIDE);
        Check.due("lock 2", x.lock(2, 5), WardWalkers.UNKNOWN);
        Check.due("lock -1", x.lock(-1, 0), WardWalkers.UNKNOWN);
        Check.due("walker 1", x.walker(1, 0), 90);
        Check.due("walker 1", x.walker(1, 1), 0);
        Check.due("walker, what 2", x.walker(1, 2), WardWalkers.OUTSIDE);
        Check.due("walker, what -1", x.walker(1, -1), WardWalkers.OUTSIDE);
        Check.due("walker 3", x.walker(3, 2), WardWalkers.UNKNOWN);
        Check.due("walker -1", x.walker(-1, 0), WardWalkers.UNKNOWN);
    }

    private static void goesByWards() {
        WardWalkers x = Check.told("brass 31;rusty 63 1;master 511;filed 63 1;lock 1 3 3 0;lock 1 3 2 0;lock 1 35 3 0;lock 1 0 0 0");
        int[][] lacking = {{0, 0, 1, 0}, {0, 0, 1, 0}, {0, 0, 0, 0}, {1, 1, 1, 0}};
        int[][] over = {{3, 3, 3, 5}, {3, 3, 3, 5}, {7, 7, 6, 9}, {4, 4, 3, 5}};
        int[][] fits = {{1, 0, 0, 0}, {1, 1, 0, 0}, {1, 1, 1, 1}, {0, 0, 0, 0}};
        for (int k = 0; k < 4; k++) {
            for (int l = 0; l < 4; l++) {
                Check.due("lacking " + k + " " + l, x.goes(k, l, 0), lacking[k][l]);
                Check.due("over " + k + " " + l, x.goes(k, l, 1), over[k][l]);
                Check.due("goes " + k + " " + l, x.goes(k, l, 2), fits[k][l]);
            }
        }
        Check.due("goes, what 3", x.goes(0, 0, 3), WardWalkers.OUTSIDE);
        Check.due("goes, what -1", x.goes(0, 0, -1), WardWalkers.OUTSIDE);
        Check.due("goes, key 4", x.goes(4, 0, 3), WardWalkers.UNKNOWN);
        Check.due("goes, lock 4", x.goes(0, 4, 3), WardWalkers.UNKNOWN);
        Check.due("goes, key -1", x.goes(-1, 0, 0), WardWalkers.UNKNOWN);
        Check.due("goes, lock -1", x.goes(0, -1, 0), WardWalkers.UNKNOWN);
    }

    private static void asKinds() {
        WardWalkers x = Check.told("brass 1;rusty 1 5;master 1;filed 1 5");
        int no = WardWalkers.NOT;
        int[][] due = {{3, 3, no, no, no}, {4, 4, 4, no, no}, {9, 9, no, 9, no}, {3, no, no, no, 3}};
        for (int k = 0; k < 4; k++) {
            for (int kind = 0; kind < 5; kind++) {
                Check.due("as(" + k + ", " + kind + ")", x.as(k, kind), due[k][kind]);
            }
        }
        Check.due("as, kind 5", x.as(0, 5), WardWalkers.OUTSIDE);
        Check.due("as, kind -1", x.as(0, -1), WardWalkers.OUTSIDE);
        Check.due("as, key 4", x.as(4, 5), WardWalkers.UNKNOWN);
        Check.due("as, key -1", x.as(-1, 0), WardWalkers.UNKNOWN);
    }
}
