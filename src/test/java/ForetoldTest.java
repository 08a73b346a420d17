/** Foretold: promises 18 to 22. */
public final class ForetoldTest {
    public static void main(String[] args) {
        belongsAndOpeners();
        twins();
        matchOfMost();
        matchOfTheFirst();
        matchOfWhatIsLeft();
        workOfOne();
        workOfSeveral();
        workRefused();
        Check.end("ForetoldTest");
    }

    private static void belongsAndOpeners() {
        WardWalkers x = Check.told("brass 1;master 3;filed 7 1;brass 256;lock 5 1 0 1;lock 5 2 0 2;lock 5 6 0 3;lock 5 0 2 4;walker 5");
        int[] locks = {9, 11, 12, 8};
        int[] keys = {3, 2, 4, 15};
        for (int i = 0; i < 4; i++) {
            Check.due("belongs(" + i + ")", x.belongs(i), locks[i]);
            Check.due("openers(" + i + ")", x.openers(i), keys[i]);
        }
        Check.due("belongs(4)", x.belongs(4), WardWalkers.UNKNOWN);
        Check.due("belongs(-1)", x.belongs(-1), WardWalkers.UNKNOWN);
        Check.due("openers(4)", x.openers(4), WardWalkers.UNKNOWN);
        Check.due("openers(-1)", x.openers(-1), WardWalkers.UNKNOWN);
        x.tries(0, 0, 0);
        x.shut(0);
        x.tries(0, 0, 0);
        x.shut(0);
        x.tries(0, 0, 0);
        Check.due("broken", x.count(6), 1);
        Check.due("open or not, broken or not", x.belongs(0), 9);
        Check.due("open or not, broken or not", x.openers(0), 3);
        Check.due("bends", x.tries(0, 3, 1), 1);
        Check.due("as it is bent now", x.belongs(3), 9);
        Check.due("as it is bent now", x.openers(0), 11);
        Check.due("nothing changes", x.count(11), 6);
    }

    private static void twins() {
        WardWalkers x = Check.told("brass 1;brass 1;master 1;brass 64;brass 64;brass 2;brass 1;lock 5 1 0 1;lock 6 2 0 2;lock 6 1 1 2");
        int[] due = {1, 2, 6, 12, 16, 26};
        Check.due("twins", x.twins(WardWalkers.NONE), 6);
        for (int i = 0; i <= 20; i++) {
            Check.due("twins(" + i + ")", x.twins(i), i < due.length ? due[i] : WardWalkers.NONE);
        }
        Check.due("twins(21)", x.twins(21), WardWalkers.OUTSIDE);
        Check.due("twins(-2)", x.twins(-2), WardWalkers.OUTSIDE);
        WardWalkers all = Check.told("brass 1;brass 1;brass 1;brass 1;brass 1;brass 1;brass 1;lock 5 1 0 1");
        Check.due("all twins", all.twins(WardWalkers.NONE), 21);
        Check.due("the first", all.twins(0), 1);
        Check.due("the last", all.twins(20), 56);
    }

    private static void matchOfMost() {
        // the lesser key of lock 0 is the only one of lock 1
        WardWalkers x = Check.told("master 3;brass 1;lock 5 1 0 1;lock 6 2 0 2;lock 7 4 0 3");
        Check.due("match", x.match(WardWalkers.NONE), 2);
        Check.due("match(0)", x.match(0), 1);
        Check.due("match(1)", x.match(1), 0);
        Check.due("match(2)", x.match(2), WardWalkers.NONE);
        Check.due("match(3)", x.match(3), WardWalkers.UNKNOWN);
        Check.due("match(-2)", x.match(-2), WardWalkers.UNKNOWN);
    }

    private static void matchOfTheFirst() {
        WardWalkers x = Check.told("master 1;master 2;master 3;lock 5 1 0 1;lock 6 2 0 2;lock 7 3 0 3;lock 8 3 0 3");
        Check.due("match", x.match(WardWalkers.NONE), 3);
        int[] due = {0, 1, 2, WardWalkers.NONE};
        for (int l = 0; l < 4; l++) {
            Check.due("match(" + l + ")", x.match(l), due[l]);
        }
        WardWalkers y = Check.told("master 7;lock 5 1 0 1;lock 6 2 0 2");
        Check.due("a key rather than none", y.match(0), 0);
        Check.due("none last", y.match(1), WardWalkers.NONE);
    }

    private static void matchOfWhatIsLeft() {
        WardWalkers x = Check.told("brass 1;brass 1;lock 5 1 0 1;lock 5 1 0 2;lock 5 1 0 3;walker 5");
        Check.due("match", x.match(WardWalkers.NONE), 2);
        x.tries(0, 0, 0);
        Check.due("an open lock gets none", x.match(0), WardWalkers.NONE);
        Check.due("match(1)", x.match(1), 0);
        Check.due("match(2)", x.match(2), 1);
        x.shut(0);
        x.tries(0, 0, 0);
        x.shut(0);
        x.tries(0, 0, 0);
        Check.due("key 0 is broken", x.count(6), 1);
        Check.due("match", x.match(WardWalkers.NONE), 1);
        Check.due("match(1)", x.match(1), 1);
        Check.due("match(2)", x.match(2), WardWalkers.NONE);
    }

    private static void workOfOne() {
        WardWalkers x = Check.told("master 511;lock 33 1 0 1;lock 99 1 0 1;lock 30 1 0 1;walker 0");
        Check.due("the nearest", x.work(1), 5);
        Check.due("two: 30 first, then 33", x.work(2), 10);
        Check.due("three", x.work(3), 24);
        Check.due("four", x.work(4), WardWalkers.NONE);
        x.tries(0, 0, 2);
        Check.due("from its minute on, from where it is", x.work(1), 10);
        Check.due("two", x.work(2), 24);
        Check.due("three", x.work(3), WardWalkers.NONE);
        x.day();
        Check.due("on the next day", x.work(1), 5);
    }

    private static void workOfSeveral() {
        WardWalkers x = Check.told("dark 10;brass 1;lock 0 1 0 1;lock 99 1 0 1;lock 9 1 0 1;lock 50 256 0 0;walker 0;walker 90");
        Check.due("one", x.work(1), 2);
        Check.due("two: one walker takes both, or each one", x.work(2), 11);
        Check.due("three, dark aside", x.work(3), 13);
        Check.due("no key for the fourth", x.work(4), WardWalkers.NONE);
        WardWalkers y = Check.told("brass 1;brass 2;lock 0 3 0 0;lock 0 1 0 1;lock 5 1 0 1;walker 0;walker 5");
        y.tries(0, 0, 0);
        Check.due("its minute", y.count(8), 2);
        y.mend(0);
        Check.due("who has none to go to does not count", y.work(1), 2);
        Check.due("two", y.work(2), 4);
        Check.due("a new object", new WardWalkers().work(1), WardWalkers.NONE);
    }

    private static void workRefused() {
        WardWalkers x = Check.told("brass 1;lock 5 1 0 1;lock 5 1 0 1");
        Check.due("no walkers", x.work(1), WardWalkers.NONE);
        Check.due("work(0)", x.work(0), WardWalkers.OUTSIDE);
        Check.due("work(8)", x.work(8), WardWalkers.OUTSIDE);
        Check.due("work(7)", x.work(7), WardWalkers.NONE);
        Check.tell(x, "walker 5");
        Check.due("two", x.work(2), 4);
        for (int i = 0; i < 3; i++) {
            x.tries(0, 0, 0);
            Check.due("shut", x.shut(0), 1);
        }
        Check.due("the key is broken", x.work(1), WardWalkers.NONE);
    }
}
