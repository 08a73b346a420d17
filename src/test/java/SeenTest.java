/** What was seen: promises 23 to 27. */
public final class SeenTest {
    public static void main(String[] args) {
        seenAndForgotten();
        cutsBySeen();
        howBent();
        oddsOfABunch();
        oddsRefused();
        Check.end("SeenTest");
    }

    private static void seenAndForgotten() {
        WardWalkers x = Check.told("lock 5 1 0 1;lock 5 2 0 1");
        Check.due("seen, lock 2", x.seen(2, 5), WardWalkers.UNKNOWN);
        Check.due("seen, lock -1", x.seen(-1, 0), WardWalkers.UNKNOWN);
        Check.due("seen, went 2", x.seen(0, 2), WardWalkers.OUTSIDE);
        Check.due("seen, went -1", x.seen(0, -1), WardWalkers.OUTSIDE);
        for (int i = 1; i <= 6; i++) {
            Check.due("seen", x.seen(i & 1, 1 - i / 4), i);
        }
        Check.due("a seventh", x.seen(0, 1), WardWalkers.FULL);
        Check.due("a seventh, outside ahead", x.seen(0, 2), WardWalkers.OUTSIDE);
        Check.due("count", x.count(9), 6);
        Check.due("forget", x.forget(), 6);
        Check.due("forget again", x.forget(), 0);
        Check.due("seen", x.seen(0, 1), 1);
    }

    private static void cutsBySeen() {
        WardWalkers x = Check.told("lock 5 3 1 1;lock 5 1 0 1;lock 5 511 0 1");
        Check.due("all cuts", x.cuts(0), 512);
        Check.due("in each", x.cuts(1), 0);
        Check.due("in some", x.cuts(2), 511);
        x.seen(0, 1);
        Check.due("3 and one more at most", x.cuts(0), 8);
        Check.due("in each", x.cuts(1), 3);
        Check.due("in some", x.cuts(2), 511);
        x.seen(1, 1);
        Check.due("no cut is 1 and has 3", x.cuts(0), 0);
        Check.due("in each of none", x.cuts(1), 0);
        Check.due("in some of none", x.cuts(2), 0);
        x.forget();
        x.seen(1, 1);
        Check.due("just 1", x.cuts(0), 1);
        Check.due("in each", x.cuts(1), 1);
        Check.due("in some", x.cuts(2), 1);
        x.forget();
        x.seen(2, 0);
        Check.due("all but one", x.cuts(0), 511);
        Check.due("cuts(3)", x.cuts(3), WardWalkers.OUTSIDE);
        Check.due("cuts(-1)", x.cuts(-1), WardWalkers.OUTSIDE);
    }

    private static void howBent() {
        WardWalkers x = Check.told("brass 3;rusty 7 1;master 3;filed 11 1;lock 5 6 0 1;lock 5 2 3 1;walker 5");
        Check.due("nothing seen", x.how(0), 511);
        x.seen(0, 1);
        Check.due("brass", x.how(0), 2);
        Check.due("rusty, without its highest", x.how(1), 2);
        Check.due("master", x.how(2), 2);
        Check.due("filed, without its lowest", x.how(3), 0);
        x.seen(1, 0);
        Check.due("brass: it would go into lock 1 too", x.how(0), 0);
        x.forget();
        x.seen(1, 1);
        Check.due("brass: 3 or 6", x.how(0), 3);
        x.tries(0, 0, 0);
        Check.due("however it is bent now", x.how(0), 3);
        Check.due("how(4)", x.how(4), WardWalkers.UNKNOWN);
        Check.due("how(-1)", x.how(-1), WardWalkers.UNKNOWN);
    }

    private static void oddsOfABunch() {
        WardWalkers x = Check.told("brass 1;brass 1;brass 2;brass 2;brass 2;lock 5 1 0 1;lock 5 4 0 1");
        int[][] due = {{0, 1}, {2, 5}, {7, 10}, {9, 10}, {1, 1}, {1, 1}, {1, 1}, {1, 1}};
        for (int m = 0; m <= 7; m++) {
            Check.due("odds above, m " + m, x.odds(31, 0, m, 0), due[m][0]);
            Check.due("odds below, m " + m, x.odds(31, 0, m, 1), due[m][1]);
        }
        Check.due("none goes", x.odds(31, 1, 3, 0), 0);
        Check.due("none goes", x.odds(31, 1, 3, 1), 1);
        Check.due("one of two", x.odds(5, 0, 1, 0), 1);
        Check.due("one of two", x.odds(5, 0, 1, 1), 2);
        Check.due("all, if there are not so many", x.odds(5, 0, 7, 1), 1);
        Check.due("all, and none goes", x.odds(28, 0, 7, 0), 0);
    }

    private static void oddsRefused() {
        WardWalkers x = Check.told("brass 1;brass 2;lock 5 1 0 1");
        Check.due("a set with a bit of no key", x.odds(4, 0, 9, 0), WardWalkers.UNKNOWN);
        Check.due("a set below 0", x.odds(-1, 0, 1, 0), WardWalkers.UNKNOWN);
        Check.due("a set far above", x.odds(1 << 30 | 1, 0, 1, 0), WardWalkers.UNKNOWN);
        Check.due("no such lock", x.odds(0, 1, 1, 0), WardWalkers.UNKNOWN);
        Check.due("no such lock", x.odds(0, -1, 1, 0), WardWalkers.UNKNOWN);
        Check.due("m 8", x.odds(0, 0, 8, 0), WardWalkers.OUTSIDE);
        Check.due("m -1", x.odds(0, 0, -1, 0), WardWalkers.OUTSIDE);
        Check.due("part 2", x.odds(0, 0, 1, 2), WardWalkers.OUTSIDE);
        Check.due("part -1", x.odds(0, 0, 1, -1), WardWalkers.OUTSIDE);
        Check.due("of no keys", x.odds(0, 0, 0, 0), WardWalkers.ZERO);
        Check.due("of no keys", x.odds(0, 0, 3, 1), WardWalkers.ZERO);
        x.seen(0, 1);
        Check.due("part 1", x.odds(3, 0, 1, 1), 2);
    }
}
