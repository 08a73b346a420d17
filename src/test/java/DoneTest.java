/** What is done: promises 11 to 17. */
public final class DoneTest {
    public static void main(String[] args) {
        triesAndAnswers();
        triesRefused();
        darkToTheMinute();
        broken();
        shutting();
        mending();
        days();
        undoing();
        keeping();
        keepingTheText();
        Check.end("DoneTest");
    }

    private static void triesAndAnswers() {
        WardWalkers x = Check.told("brass 3;master 3;brass 31;lock 25 3 0 7;lock 30 7 0 9;lock 30 3 0 11;lock 30 24 0 1;walker 11;walker 99");
        Check.due("opens", x.tries(0, 0, 0), 2);
        Check.due("place", x.walker(0, 0), 25);
        Check.due("minute: 5 to go and 2 there", x.walker(0, 1), 7);
        Check.due("turned", x.key(0, 4), 1);
        Check.due("open", x.lock(0, 4), 1);
        Check.due("open bits", x.count(5), 1);
        Check.due("found", x.count(7), 7);
        Check.due("the other walker stays", x.walker(1, 1), 0);
        Check.due("bends", x.tries(0, 0, 1), 1);
        Check.due("bent", x.key(0, 3), 1);
        Check.due("not turned by it", x.key(0, 4), 1);
        Check.due("minute", x.walker(0, 1), 15);
        Check.due("a master is not bent", x.tries(0, 1, 1), 0);
        Check.due("not bent", x.key(1, 3), 0);
        Check.due("minute", x.walker(0, 1), 17);
        Check.due("only over: neither", x.tries(0, 2, 2), 0);
        Check.due("not bent", x.key(2, 3), 0);
        Check.due("two lacking: neither", x.tries(1, 1, 3), 0);
        Check.due("minute of walker 1: 15 and 2", x.walker(1, 1), 17);
        Check.due("one walker's minute", x.count(8), 19);
        Check.due("to undo", x.count(11), 5);
        Check.due("the master opens", x.tries(0, 1, 2), 2);
        Check.due("found in all", x.count(7), 18);
        Check.due("open bits", x.count(5), 5);
    }

    private static void triesRefused() {
        WardWalkers x = Check.told("brass 1;lock 5 1 0 1;walker 5");
        int[][] unknown = {{1, 0, 0}, {-1, 0, 0}, {0, 1, 0}, {0, -1, 0}, {0, 0, 1}, {0, 0, -1}};
        for (int[] u : unknown) {
            Check.due("tries, unknown", x.tries(u[0], u[1], u[2]), WardWalkers.UNKNOWN);
        }
        Check.due("opens", x.tries(0, 0, 0), 2);
        Check.due("it is open", x.tries(0, 0, 0), WardWalkers.NOT);
        Check.due("nothing changes", x.walker(0, 1), 2);
        Check.due("one to undo", x.count(11), 1);
    }

    private static void darkToTheMinute() {
        WardWalkers x = Check.told("dark 20;brass 0;lock 99 511 0 1;lock 98 511 0 0;walker 0;walker 1");
        Check.due("at dark, not later", x.tries(0, 0, 0), 0);
        Check.due("minute", x.walker(0, 1), 20);
        Check.due("later than dark", x.tries(0, 0, 1), WardWalkers.NOT);
        Check.due("it stays", x.walker(0, 0), 99);
        Check.due("the other", x.tries(1, 0, 0), 0);
        Check.due("its minute", x.walker(1, 1), 19);
        Check.due("later than dark", x.tries(1, 0, 0), WardWalkers.NOT);
        x.day();
        Check.due("the next day", x.tries(1, 0, 0), 0);
        Check.due("its minute", x.walker(1, 1), 2);
    }

    private static void broken() {
        WardWalkers x = Check.told("brass 1;lock 5 1 0 4;lock 5 1 0 5;lock 5 1 0 6;lock 5 1 0 7;walker 5");
        for (int l = 0; l < 3; l++) {
            Check.due("not broken yet", x.key(0, 6), 0);
            Check.due("opens", x.tries(0, 0, l), 2);
        }
        Check.due("turned", x.key(0, 4), 3);
        Check.due("broken", x.key(0, 6), 1);
        Check.due("broken bits", x.count(6), 1);
        Check.due("a broken key", x.tries(0, 0, 3), WardWalkers.NOT);
        Check.due("it goes still", x.goes(0, 3, 2), 1);
        Check.due("mended", x.mend(0), 3);
        Check.due("opens again", x.tries(0, 0, 3), 2);
        Check.due("found", x.count(7), 22);
    }

    private static void shutting() {
        WardWalkers x = Check.told("brass 1;lock 5 1 0 4;lock 5 1 0 5;walker 5");
        Check.due("shut, not open", x.shut(0), WardWalkers.NOT);
        Check.due("shut, unknown", x.shut(2), WardWalkers.UNKNOWN);
        Check.due("shut, unknown", x.shut(-1), WardWalkers.UNKNOWN);
        x.tries(0, 0, 0);
        x.tries(0, 0, 1);
        Check.due("shut", x.shut(1), 5);
        Check.due("open bits", x.count(5), 1);
        Check.due("its value was found", x.count(7), 9);
        Check.due("shut again", x.shut(1), WardWalkers.NOT);
        Check.due("opened again", x.tries(0, 0, 1), 2);
        Check.due("its value is found again", x.count(7), 14);
    }

    private static void mending() {
        WardWalkers x = Check.told("brass 1;lock 5 1 0 4;lock 5 3 0 5;walker 5");
        Check.due("mend, neither", x.mend(0), WardWalkers.NOT);
        Check.due("mend, unknown", x.mend(1), WardWalkers.UNKNOWN);
        Check.due("mend, unknown", x.mend(-1), WardWalkers.UNKNOWN);
        x.tries(0, 0, 0);
        x.tries(0, 0, 1);
        x.tries(0, 0, 1);
        Check.due("bent twice, turned once", x.mend(0), 3);
        Check.due("not bent", x.key(0, 3), 0);
        Check.due("not turned", x.key(0, 4), 0);
        Check.due("mend, neither", x.mend(0), WardWalkers.NOT);
        Check.due("the lock is open yet", x.count(5), 1);
    }

    private static void days() {
        WardWalkers x = Check.told("brass 1;lock 50 1 0 4;walker 5;walker 6");
        x.tries(0, 0, 0);
        Check.due("day", x.day(), 1);
        Check.due("who stays where it is", x.walker(0, 0), 50);
        Check.due("minute 0", x.walker(0, 1), 0);
        Check.due("the latest minute", x.count(8), 0);
        Check.due("open yet", x.count(5), 1);
        for (int d = 2; d <= 999; d++) {
            Check.due("day", x.day(), d);
        }
        Check.due("day 999 is the last", x.day(), WardWalkers.FULL);
        Check.due("it stays", x.count(4), 999);
        Check.due("undone", x.undo(), 7);
        Check.due("day again", x.day(), 999);
    }

    private static void undoing() {
        WardWalkers x = Check.told("brass 3;lock 52 3 0 4;lock 52 7 0 5;walker 50;walker 0");
        x.tries(0, 0, 1);
        x.mend(0);
        x.tries(0, 0, 0);
        x.shut(0);
        x.day();
        x.seen(0, 1);
        Check.due("to undo", x.count(11), 5);
        Check.due("the day is undone", x.undo(), 4);
        Check.due("day", x.count(4), 0);
        Check.due("minute", x.walker(0, 1), 6);
        Check.due("the shutting", x.undo(), 3);
        Check.due("open", x.count(5), 1);
        Check.due("the opening", x.undo(), 2);
        Check.due("open", x.count(5), 0);
        Check.due("found", x.count(7), 0);
        Check.due("turned", x.key(0, 4), 0);
        Check.due("minute", x.walker(0, 1), 4);
        Check.due("the mending", x.undo(), 1);
        Check.due("bent", x.key(0, 3), 1);
        Check.due("the bending", x.undo(), 0);
        Check.due("bent", x.key(0, 3), 0);
        Check.due("place", x.walker(0, 0), 50);
        Check.due("minute", x.walker(0, 1), 0);
        Check.due("none", x.undo(), WardWalkers.NOT);
        Check.due("what was seen stays", x.count(9), 1);
        for (int i = 1; i <= 12; i++) {
            x.day();
            Check.due("to undo", x.count(11), Math.min(i, 8));
        }
        for (int i = 7; i >= 0; i--) {
            Check.due("undo", x.undo(), i);
        }
        Check.due("the last 8 alone", x.undo(), WardWalkers.NOT);
        Check.due("day", x.count(4), 4);
        x.tries(1, 0, 9);
        x.shut(0);
        Check.due("what is refused is not undone", x.undo(), WardWalkers.NOT);
    }

    private static void keeping() {
        WardWalkers x = Check.told("brass 3;lock 52 3 0 4;lock 52 7 0 5;walker 50");
        Check.due("keep 2", x.keep(2), WardWalkers.UNKNOWN);
        Check.due("keep -1", x.keep(-1), WardWalkers.UNKNOWN);
        Check.due("back 2", x.back(2), WardWalkers.UNKNOWN);
        Check.due("back -1", x.back(-1), WardWalkers.UNKNOWN);
        Check.due("back 0, nothing kept", x.back(0), WardWalkers.NOT);
        x.day();
        x.tries(0, 0, 0);
        x.tries(0, 0, 1);
        Check.due("keep 0", x.keep(0), 1);
        Check.due("keeping is not undone", x.count(11), 3);
        Check.due("back 1, nothing kept", x.back(1), WardWalkers.NOT);
        x.shut(0);
        x.mend(0);
        x.day();
        Check.due("keep 1", x.keep(1), 2);
        x.seen(1, 0);
        x.rack(0, 0, 4);
        Check.due("back 0", x.back(0), 1);
        Check.due("nothing can be undone", x.undo(), WardWalkers.NOT);
        Check.due("bent", x.key(0, 3), 1);
        Check.due("turned", x.key(0, 4), 1);
        Check.due("open", x.count(5), 1);
        Check.due("found", x.count(7), 4);
        Check.due("place", x.walker(0, 0), 52);
        Check.due("minute", x.walker(0, 1), 6);
        Check.due("what is seen stays", x.count(9), 1);
        Check.due("racks stay", x.count(10), 1);
        Check.due("back 1", x.back(1), 2);
        Check.due("not bent", x.key(0, 3), 0);
        Check.due("shut", x.count(5), 0);
        Check.due("day", x.day(), 3);
        Check.due("back 1 again", x.back(1), 2);
        Check.due("keep 1 anew", x.keep(0), 2);
        Check.due("back 0, now the same", x.back(0), 2);
    }

    /** All as it is but SEEN, RACKS and what can be undone: so THE TEXT also. */
    private static void keepingTheText() {
        WardWalkers x = new WardWalkers();
        Check.put(x, "dark 3");
        x.keep(0);
        Check.put(x, "3;x");
        Check.due("fault", x.fault(), 8);
        Check.due("back", x.back(0), 0);
        Check.due("letters", x.count(12), 6);
        Check.due("write", x.write('4'), 7);
        Check.due("land", x.land(), 1);
        Check.due("dark", x.count(3), 34);
        Check.put(x, "walker 5");
        x.keep(1);
        x.erase();
        Check.put(x, "lock");
        Check.due("back", x.back(1), 0);
        Check.due("no fault", x.fault(), WardWalkers.NONE);
        Check.due("land", x.land(), 1);
        Check.due("place", x.walker(0, 0), 5);
    }
}
