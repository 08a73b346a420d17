/** Boundary sentences of the terms and of promises 1 to 10. */
final class ToldEdges {
    private static final String[] KEY_WORDS = {"brass", "rusty", "master", "filed"};
    private static final String LOCK = "lock 5 1 0 1";
    private static final int[] FAR = {Edges.MIN, -1, Edges.MAX};

    private ToldEdges() { }

    static void all() {
        places();
        cuts();
        keysAtMost();
        marks();
        locksAtMost();
        walkersAtMost();
        dark();
        lettersAtMost();
        clausesAtMost();
        landAgain();
        eighthAndFourth();
        numbersAndBlanks();
        earlierTexts();
        firstFault();
        faultAtTheEnd();
        inTheirOrder();
        behindTheText();
        aNewObject();
        writeAndErase();
        faultAndLand();
        askedOfKeys();
        askedOfLocksAndWalkers();
        goes();
        as();
    }

    /** The text has its fault at this place; NONE: it has none and lands. */
    private static void fault(String text, int place) {
        faultOn(new WardWalkers(), text, place);
    }

    private static void faultOn(WardWalkers x, String text, int place) {
        x.erase();
        Check.put(x, text);
        Edges.due("fault of '" + text + "'", x.fault(), place);
        Edges.due("land of '" + text + "'", x.land(), place == Edges.NONE ? text.split(";", -1).length : Edges.NOT);
        Edges.due("letters then", x.count(12), place == Edges.NONE ? 0 : text.length());
    }

    private static void places() {
        Edges.says("99: 10 times the row (0 .. 9) and the column (0 .. 9); it is as many MINUTES from one to another as rows and columns differ, together");
        fault("walker 0;walker 99;lock 0 1 0 1;lock 99 1 0 1", Edges.NONE);
        fault("walker 100", 7);
        fault("lock 100 1 0 1", 5);
        int[][] ways = {{0, 99, 18}, {99, 0, 18}, {90, 9, 18}, {9, 90, 18}, {0, 0, 0}, {99, 99, 0}, {9, 10, 10}, {10, 9, 10}, {5, 50, 10},
            {98, 99, 1}, {89, 99, 1}};
        for (int[] way : ways) {
            WardWalkers x = Check.told("master 0;lock " + way[1] + " 0 0 1;walker " + way[0]);
            Edges.due("from " + way[0] + " to " + way[1], x.work(1), way[2] + 2);
            Edges.due("the lock opens", x.tries(0, 0, 0), 2);
            Edges.due("its minute", x.walker(0, 1), way[2] + 2);
            Edges.due("its place", x.walker(0, 0), way[1]);
        }
    }

    private static void cuts() {
        Edges.says("WARDS are 0 .. 8; a CUT is a set of them (0 .. 511, by bits)");
        for (int kind = 0; kind < 4; kind++) {
            String behind = kind % 2 == 1 ? " 0" : "";
            WardWalkers x = Check.told(KEY_WORDS[kind] + " 0" + behind + ";" + KEY_WORDS[kind] + " 511" + behind);
            Edges.due("kind", x.key(0, 0), kind);
            Edges.due("least cut", x.key(0, 1), 0);
            Edges.due("most cut", x.key(1, 1), 511);
            Edges.due("its edge", x.key(1, 5), 511);
            fault(KEY_WORDS[kind] + " 512" + behind, KEY_WORDS[kind].length() + 1);
            fault(KEY_WORDS[kind] + " 999" + behind, KEY_WORDS[kind].length() + 1);
            fault(KEY_WORDS[kind] + " -1" + behind, KEY_WORDS[kind].length() + 1);
        }
    }

    private static void keysAtMost() {
        Edges.says("KEYS are 0, 1 .., 7 at most (none at first)");
        Edges.due("none at first", new WardWalkers().count(0), 0);
        Edges.due("none at first", new WardWalkers().key(0, 0), Edges.UNKNOWN);
        for (int kind = 0; kind < 4; kind++) {
            String clause = KEY_WORDS[kind] + (kind % 2 == 1 ? " 5 1" : " 5");
            WardWalkers x = Check.told(Edges.with("", clause, 7));
            Edges.due("seven", x.count(0), 7);
            Edges.due("the last", x.key(6, 0), kind);
            Edges.due("no eighth", x.key(7, 0), Edges.UNKNOWN);
            String six = Edges.with("", clause, 6);
            Edges.due("six", Check.told(six).count(0), 6);
            Edges.due("no seventh of six", Check.told(six).key(6, 0), Edges.UNKNOWN);
        }
    }

    private static void marks() {
        Edges.says("a MARK (0 .. 9; of a RUSTY one its RUST, of a FILED one how many WARDS were filed off)");
        for (String word : new String[] {"rusty", "filed"}) {
            for (int mark = 0; mark <= 9; mark++) {
                WardWalkers x = Check.told(word + " 511 " + mark);
                Edges.due("mark of " + word, x.key(0, 2), mark);
                Edges.due("wards left", Integer.bitCount(x.key(0, 5)), 9 - mark);
            }
            fault(word + " 511 10", 10);
            fault(word + " 511 99", 10);
            fault(word + " 511 -1", 10);
            fault(word + " 511", 9);
        }
        Edges.says("(MARK 0 of brass, master)");
        WardWalkers x = Check.told("brass 511;master 511");
        Edges.due("of brass", x.key(0, 2), 0);
        Edges.due("of master", x.key(1, 2), 0);
        fault("brass 511 0", 10);
        fault("master 511 0", 11);
    }

    private static void locksAtMost() {
        Edges.says("LOCKS are 0, 1 .., 7 at most: at a PLACE, with a CUT that is WANTED, with PLAY (0 .. 3), hiding a VALUE (0 .. 30)");
        Edges.due("none at first", new WardWalkers().lock(0, 0), Edges.UNKNOWN);
        WardWalkers x = Check.told(Edges.with("lock 0 0 0 0", "lock 99 511 3 30", 6));
        Edges.due("seven", x.count(1), 7);
        int[] most = {99, 511, 3, 30, 0};
        for (int what = 0; what < 5; what++) {
            Edges.due("the first", x.lock(0, what), 0);
            Edges.due("the last", x.lock(6, what), most[what]);
        }
        Edges.due("no eighth", x.lock(7, 0), Edges.UNKNOWN);
        fault("lock 100 511 3 30", 5);
        fault("lock 99 512 3 30", 8);
        fault("lock 99 511 4 30", 12);
        fault("lock 99 511 3 31", 14);
        fault("lock 99 511 3 -1", 14);
        fault("lock 99 511 3 30 1", 17);
    }

    private static void walkersAtMost() {
        Edges.says("WALKERS are 0, 1 .., 3 at most, each at a PLACE");
        Edges.due("none at first", new WardWalkers().walker(0, 0), Edges.UNKNOWN);
        WardWalkers x = Check.told("walker 0;walker 99;walker 50");
        Edges.due("three", x.count(2), 3);
        Edges.due("least place", x.walker(0, 0), 0);
        Edges.due("most place", x.walker(1, 0), 99);
        Edges.due("the last", x.walker(2, 0), 50);
        Edges.due("no fourth", x.walker(3, 0), Edges.UNKNOWN);
        Edges.due("no third of two", Check.told("walker 5;walker 6").walker(2, 0), Edges.UNKNOWN);
    }

    private static void dark() {
        Edges.says("It is DARK at a MINUTE (10 .. 99; 60 at first)");
        Edges.due("at first", new WardWalkers().count(3), 60);
        Edges.due("as no text told", Check.told("walker 5").count(3), 60);
        Edges.due("least", Check.told("dark 10").count(3), 10);
        Edges.due("most", Check.told("dark 99").count(3), 99);
        fault("dark 9", 5);
        fault("dark 0", 5);
        fault("dark 009", 5);
        fault("dark 100", 5);
        fault("dark", 4);
    }

    private static void lettersAtMost() {
        Edges.says("THE TEXT is a row of letters, 200 at most");
        String blanks = " ".repeat(190);
        WardWalkers x = new WardWalkers();
        Check.put(x, blanks + " walker 42");
        Edges.due("letters", x.count(12), 200);
        Edges.due("one more", x.write('1'), Edges.FULL);
        Edges.due("the whole text is read", x.fault(), Edges.NONE);
        Edges.due("it lands", x.land(), 1);
        Edges.due("as it was told", x.walker(0, 0), 42);
        Edges.due("letters", x.count(12), 0);
        Edges.due("one more", x.write('1'), 1);
        fault(blanks + "     brass", 200);
        fault(blanks + "      lan;", 196);
        fault(" ".repeat(200), 200);
    }

    private static void clausesAtMost() {
        Edges.says("CLAUSES with ; between, 20 at most");
        String twenty = Edges.with("", "dark 20", 20);
        fault("dark 20", Edges.NONE);
        fault(Edges.with("", "dark 20", 19), Edges.NONE);
        fault(twenty, Edges.NONE);
        fault(twenty + "  ", Edges.NONE);
        fault(twenty + ";dark 20", twenty.length());
        fault(twenty + " ;", twenty.length() + 1);
        fault("dark 20 dark 20", 8);
        fault("dark 20,dark 20", 7);
        fault("dark 20;;dark 20", 8);
        fault(";dark 20", 0);
        fault("dark 20;", 8);
    }

    private static void landAgain() {
        Edges.says("land: all as at first");
        WardWalkers x = Edges.busy();
        x.erase();
        Check.tell(x, "dark 33");
        Check.tell(x, "land");
        int[] first = {0, 0, 0, 60, 0, 0, 0, 0, 0, 0};
        for (int what = 0; what < first.length; what++) {
            Edges.due("count(" + what + ")", x.count(what), first[what]);
        }
        Edges.due("no key", x.key(0, 0), Edges.UNKNOWN);
        Edges.due("no lock", x.lock(0, 0), Edges.UNKNOWN);
        Edges.due("no walker", x.walker(0, 0), Edges.UNKNOWN);
        fault(Edges.with(Edges.with("", "master 1", 7) + ";land", "master 1", 7), Edges.NONE);
        fault(Edges.with(Edges.with("", LOCK, 6) + ";land", LOCK, 7), Edges.NONE);
        fault(Edges.with(Edges.with("", "walker 1", 3) + ";land", "walker 1", 3), Edges.NONE);
        fault("land 1", 5);
    }

    private static void eighthAndFourth() {
        Edges.says("a KEY more of CUT C (MARK 0 of brass, master), an eighth cannot stand there (at its word)");
        String keys = Edges.with("", "brass 1", 7);
        for (String word : KEY_WORDS) {
            fault(keys + "; " + word + " 1 1", keys.length() + 2);
            fault(keys + ";" + word, keys.length() + 1);
            fault(keys + ";" + word + " 512", keys.length() + 1);
        }
        fault(keys + ";" + LOCK + ";walker 1;dark 20", Edges.NONE);
        fault(Edges.with(keys + ";land", "filed 1 1", 8), keys.length() + 5 + 70 + 1);
        Edges.says("lock: one more at PLACE X, an eighth cannot");
        String locks = Edges.with("", LOCK, 7);
        fault(locks + ";" + LOCK, locks.length() + 1);
        fault(locks + "; lock", locks.length() + 2);
        fault(locks + ";brass 1;walker 1", Edges.NONE);
        fault(Edges.with("land", LOCK, 8), 4 + 91 + 1);
        Edges.says("walker: one more, a fourth cannot");
        String walkers = Edges.with("", "walker 1", 3);
        fault(walkers + ";walker 1", walkers.length() + 1);
        fault(walkers + ";walker", walkers.length() + 1);
        fault(walkers + ";brass 1;" + LOCK, Edges.NONE);
    }

    private static void numbersAndBlanks() {
        Edges.says("small letters a .. z, numbers of 1 to 3 digits, blanks between");
        for (String text : new String[] {"walker 7", "walker 07", "walker 007", "  walker   7  ", "walker7"}) {
            WardWalkers x = Check.told(text);
            Edges.due("place by '" + text + "'", x.walker(0, 0), 7);
        }
        fault("walker 0007", 7);
        fault("walker 00000000000007", 7);
        fault("walker 4294967297", 7);
        fault("walker 18446744073709551617", 7);
        fault("walker", 6);
        fault("walker seven", 7);
        fault("Walker 7", 0);
        fault("walkerR 7", 6);
        fault("wal ker 7", 0);
        fault("walker 0 7", 9);
        fault("walker\t7", 6);
        fault("walker\n7", 6);
        fault("walker 7" + (char) 0, 8);
        fault("walker 7" + (char) 255, 8);
        fault("walker 7" + (char) 160, 8);
        // the neighbours of a and z, 0 and 9 among the letters are letters of another sort
        fault("`walker 7", 0);
        fault("{walker 7", 0);
        fault("walker` 7", 6);
        fault("walker{ 7", 6);
        fault("walker /7", 7);
        fault("walker :7", 7);
        fault("walker 7/", 8);
        fault("walker 7:", 8);
        fault("walkera 7", 0);
        fault("walkerz 7", 0);
        fault("awalker 7", 0);
        fault("zwalker 7", 0);
        fault("xalker 7", 0);
        fault("walkex 7", 0);
        fault("walker 90;walker 09", Edges.NONE);
    }

    private static void earlierTexts() {
        Edges.says("what earlier texts told stays");
        WardWalkers x = Check.told(Edges.with("dark 31;walker 4;walker 5", "brass 9", 6));
        Check.tell(x, Edges.with("brass 8", LOCK, 6));
        Edges.due("keys", x.count(0), 7);
        Edges.due("of the first text", x.key(5, 1), 9);
        Edges.due("of the second text", x.key(6, 1), 8);
        Edges.due("dark", x.count(3), 31);
        faultOn(x, "dark 32;brass 7", 8);
        faultOn(x, "lock 6 1 0 1;lock 7 1 0 1", 13);
        faultOn(x, "lock 6 1 0 1;walker 6", Edges.NONE);
        faultOn(x, "lock 7 1 0 1", 0);
        faultOn(x, "walker 7", 0);
        Edges.due("dark", x.count(3), 31);
        Edges.due("locks", x.lock(6, 0), 6);
        Edges.due("walkers", x.walker(0, 0) * 100 + x.walker(1, 0) * 10 + x.walker(2, 0), 456);
        faultOn(x, "land;brass 7;walker 7", Edges.NONE);
        Edges.due("keys", x.count(0), 1);
    }

    private static void firstFault() {
        Edges.says("A FAULT is at the first TOKEN (a row of small letters, a row of digits, any other letter) that cannot stand there (a number out of its bounds, of more digits, also)");
        fault("oak 1;brass 512", 0);
        fault("brass 512;oak 1", 6);
        fault("brass 1;oak 1", 8);
        fault("brass 1 ; ;", 10);
        fault("brass 1x1", 7);
        fault("brass x1", 6);
        fault("brass !!", 6);
        fault("brass 1!!", 7);
        fault("1brass", 0);
        fault("12 34", 0);
        fault("rusty 512 10", 6);
        fault("rusty 511 0001", 10);
        fault("lock 99 511 4 31", 12);
        fault("brassbrass 1", 0);
        fault("bras 1", 0);
        fault("", 0);
    }

    private static void faultAtTheEnd() {
        Edges.says("or at the end, if it comes too soon");
        String[] tooSoon = {"", " ", "brass", "brass ", "rusty 1", "rusty 1  ", "master", "filed 1", "lock", "lock 1", "lock 1 1", "lock 1 1 1", "lock 1 1 1 ",
            "walker", "dark", "land;", "land; ", "land;brass"};
        for (String text : tooSoon) {
            fault(text, text.length());
        }
    }

    private static void inTheirOrder() {
        Edges.says("CLAUSES are done in their order");
        Edges.due("land behind a key", Check.told("brass 1;land").count(0), 0);
        Edges.due("land ahead of a key", Check.told("land;brass 1").count(0), 1);
        Edges.due("land behind dark", Check.told("dark 20;land").count(3), 60);
        Edges.due("the later dark", Check.told("dark 20;dark 30").count(3), 30);
        WardWalkers x = Check.told("walker 5;land;walker 6;walker 7;brass 1;master 1");
        Edges.due("the first walker behind land", x.walker(0, 0), 6);
        Edges.due("the next one", x.walker(1, 0), 7);
        Edges.due("the first key", x.key(0, 0), 0);
        Edges.due("the next one", x.key(1, 0), 2);
    }

    private static void behindTheText() {
        Edges.says("Behind them it is DAY 0, MINUTE 0 for each WALKER, these are where they were told, no KEY is BENT, none has TURNED, all LOCKS are shut, nothing was FOUND, SEEN, nothing is kept or can be undone");
        WardWalkers x = Edges.busy();
        x.tries(1, 2, 2);
        x.erase();
        Check.tell(x, "dark 40");
        for (int w = 0; w < 2; w++) {
            Edges.due("minute", x.walker(w, 1), 0);
            Edges.due("where it was told", x.walker(w, 0), w == 0 ? 11 : 0);
        }
        for (int k = 0; k < 4; k++) {
            Edges.due("bent, turned, broken", x.key(k, 3) + x.key(k, 4) + x.key(k, 6), 0);
        }
        for (int what : new int[] {4, 5, 6, 7, 8, 9, 11, 12}) {
            Edges.due("count(" + what + ")", x.count(what), 0);
        }
        Edges.due("undone", x.undo(), Edges.NOT);
        Edges.due("kept", x.back(0), Edges.NOT);
        Edges.due("all cuts", x.cuts(0), 512);
        Edges.due("shut", x.shut(0), Edges.NOT);
    }

    private static void aNewObject() {
        Edges.promise(1, "No keys, locks, walkers, racks.");
        WardWalkers x = new WardWalkers();
        Edges.due("keys", x.count(0), 0);
        Edges.due("locks", x.count(1), 0);
        Edges.due("walkers", x.count(2), 0);
        Edges.due("racks", x.count(10), 0);
        for (int r = 0; r < 4; r++) {
            Edges.due("drop", x.drop(r), Edges.NULL);
        }
    }

    private static void writeAndErase() {
        Edges.promise(2, "A letter (its number, 0 .. 255) more of THE TEXT: how many it has.");
        WardWalkers x = new WardWalkers();
        Edges.due("the least letter", x.write(0), 1);
        Edges.due("the most letter", x.write(255), 2);
        Edges.due("letters", x.count(12), 2);
        Edges.promise(2, "OUTSIDE; FULL.");
        for (int letter : new int[] {-1, 256, Edges.MIN, Edges.MAX}) {
            Edges.refused(Edges::busy, "write " + letter, Edges.OUTSIDE, y -> y.write(letter));
            Edges.refused(ToldEdges::full, "ahead of FULL: write " + letter, Edges.OUTSIDE, y -> y.write(letter));
        }
        Edges.refused(ToldEdges::full, "a 201st letter", Edges.FULL, y -> y.write(0));
        Edges.promise(3, "THE TEXT is empty: how many letters it had.");
        Edges.due("of 2", x.erase(), 2);
        Edges.due("of none", x.erase(), 0);
        Edges.due("letters", x.count(12), 0);
        Edges.due("of 200", full().erase(), 200);
    }

    private static WardWalkers full() {
        WardWalkers x = new WardWalkers();
        Check.put(x, "walker 5" + " ".repeat(192));
        return x;
    }

    private static void faultAndLand() {
        Edges.promise(4, "The place of the FAULT (the letter with which the TOKEN begins, or the length); NONE.");
        fault("   brass   1234", 11);
        fault("   brass   ", 11);
        fault("   brass   123  ", Edges.NONE);
        Edges.foretold(Edges::busy, "fault", 0, WardWalkers::fault);
        Edges.foretold(ToldEdges::full, "fault", Edges.NONE, WardWalkers::fault);
        Edges.promise(5, "THE TEXT's CLAUSES are done, and it is empty then: how many there were.");
        for (int many : new int[] {1, 2, 20}) {
            WardWalkers x = new WardWalkers();
            Check.put(x, Edges.with("", "dark 20", many));
            Edges.due("clauses", x.land(), many);
            Edges.due("letters", x.count(12), 0);
            Edges.due("an empty text", x.land(), Edges.NOT);
        }
        Edges.promise(5, "NOT: it has a FAULT.");
        Edges.refused(Edges::busy, "land of 'walk'", Edges.NOT, WardWalkers::land);
        Edges.refused(() -> half("land;brass 9;brass 512"), "land, its last clause has a fault", Edges.NOT, WardWalkers::land);
        Edges.refused(() -> half(""), "land of nothing", Edges.NOT, WardWalkers::land);
    }

    private static WardWalkers half(String text) {
        WardWalkers x = Edges.busy();
        x.erase();
        Check.put(x, text);
        return x;
    }

    private static void askedOfKeys() {
        Edges.promise(6, "Of a KEY: KIND (what 0), CUT (1), MARK (2), how often it is BENT (3), has TURNED (4), EDGE now (5), 1 it is BROKEN, 0 (6).");
        int[][] due = {{0, 1, 0, 0, 3, 1, 1}, {1, 3, 1, 1, 0, 2, 0}, {2, 3, 0, 0, 0, 3, 0}, {3, 3, 1, 0, 0, 2, 0}};
        for (int k = 0; k < 4; k++) {
            for (int what = 0; what < 7; what++) {
                int key = k;
                int asked = what;
                Edges.foretold(Edges::busy, "key(" + k + ", " + what + ")", due[k][what], x -> x.key(key, asked));
            }
        }
        Edges.promise(6, "UNKNOWN; OUTSIDE.");
        for (int key : new int[] {4, 7, -1, Edges.MIN, Edges.MAX}) {
            Edges.refused(Edges::busy, "key " + key, Edges.UNKNOWN, x -> x.key(key, 0));
            Edges.refused(Edges::busy, "ahead of OUTSIDE: key " + key, Edges.UNKNOWN, x -> x.key(key, 7));
        }
        for (int what : new int[] {7, -1, Edges.MIN, Edges.MAX}) {
            Edges.refused(Edges::busy, "what " + what, Edges.OUTSIDE, x -> x.key(3, what));
        }
    }

    private static void askedOfLocksAndWalkers() {
        Edges.promise(7, "Of a LOCK: PLACE (what 0), what is WANTED (1), PLAY (2), VALUE (3), 1 it is open, 0 (4).");
        WardWalkers y = Edges.busy();
        int[][] due = {{11, 1, 0, 5, 1}, {11, 2, 0, 7, 0}, {13, 5, 0, 9, 0}};
        for (int l = 0; l < 3; l++) {
            for (int what = 0; what < 5; what++) {
                Edges.due("lock(" + l + ", " + what + ")", y.lock(l, what), due[l][what]);
            }
        }
        Edges.promise(7, "UNKNOWN; OUTSIDE.");
        for (int lock : new int[] {3, 7, -1, Edges.MIN, Edges.MAX}) {
            Edges.refused(Edges::busy, "lock " + lock, Edges.UNKNOWN, x -> x.lock(lock, 0));
            Edges.refused(Edges::busy, "ahead of OUTSIDE: lock " + lock, Edges.UNKNOWN, x -> x.lock(lock, 5));
        }
        for (int what : new int[] {5, -1, Edges.MIN, Edges.MAX}) {
            Edges.refused(Edges::busy, "what " + what, Edges.OUTSIDE, x -> x.lock(2, what));
        }
        Edges.promise(8, "Of a WALKER: PLACE (what 0), MINUTE (1).");
        y.undo();
        Edges.due("place", y.walker(0, 0), 11);
        Edges.due("minute", y.walker(0, 1), 8);
        Edges.due("place", y.walker(1, 0), 0);
        Edges.due("minute", y.walker(1, 1), 0);
        Edges.promise(8, "UNKNOWN; OUTSIDE.");
        for (int walker : new int[] {2, 3, -1, Edges.MIN, Edges.MAX}) {
            Edges.refused(Edges::busy, "walker " + walker, Edges.UNKNOWN, x -> x.walker(walker, 0));
            Edges.refused(Edges::busy, "ahead of OUTSIDE: walker " + walker, Edges.UNKNOWN, x -> x.walker(walker, 2));
        }
        for (int what : new int[] {2, -1, Edges.MIN, Edges.MAX}) {
            Edges.refused(Edges::busy, "what " + what, Edges.OUTSIDE, x -> x.walker(1, what));
        }
    }

    private static void goes() {
        Edges.promise(9, "A KEY in a LOCK: how many WARDS are LACKING (what 0), OVER (1), 1 it GOES, 0 (2).");
        WardWalkers y = Check.told("brass 0;brass 511;master 511;lock 5 511 0 1;lock 5 0 3 1");
        int[][][] due = {{{9, 0, 0}, {0, 0, 1}}, {{0, 0, 1}, {0, 9, 0}}, {{0, 0, 1}, {0, 9, 1}}};
        for (int k = 0; k < 3; k++) {
            for (int l = 0; l < 2; l++) {
                for (int what = 0; what < 3; what++) {
                    Edges.due("goes(" + k + ", " + l + ", " + what + ")", y.goes(k, l, what), due[k][l][what]);
                }
            }
        }
        Edges.promise(9, "UNKNOWN; OUTSIDE.");
        for (int far : FAR) {
            Edges.refused(Edges::busy, "key " + far, Edges.UNKNOWN, x -> x.goes(far, 0, 3));
            Edges.refused(Edges::busy, "lock " + far, Edges.UNKNOWN, x -> x.goes(0, far, 3));
            Edges.refused(Edges::busy, "what " + far, Edges.OUTSIDE, x -> x.goes(3, 2, far));
        }
        Edges.refused(Edges::busy, "key 4", Edges.UNKNOWN, x -> x.goes(4, 0, 0));
        Edges.refused(Edges::busy, "lock 3", Edges.UNKNOWN, x -> x.goes(0, 3, 0));
        Edges.refused(Edges::busy, "what 3", Edges.OUTSIDE, x -> x.goes(3, 2, 3));
    }

    private static void as() {
        Edges.promise(10, "A KEY taken as a KIND (0 .. 4, as they are over one another): the ROOM that it would have by PLAY 3.");
        int[][] due = {{3, 3, Edges.NOT, Edges.NOT, Edges.NOT}, {4, 4, 4, Edges.NOT, Edges.NOT}, {9, 9, Edges.NOT, 9, Edges.NOT},
            {3, Edges.NOT, Edges.NOT, Edges.NOT, 3}};
        for (int k = 0; k < 4; k++) {
            Edges.due("as KEY, the least kind", Edges.busy().as(k, 0), due[k][0]);
        }
        Edges.due("FILED as FILED, the most kind", Edges.busy().as(3, 4), 3);
        Edges.promise(10, "UNKNOWN; OUTSIDE; NOT: it is none such.");
        for (int k = 0; k < 4; k++) {
            for (int kind = 1; kind < 5; kind++) {
                int key = k;
                int taken = kind;
                Edges.foretold(Edges::busy, "as(" + k + ", " + kind + ")", due[k][kind], x -> x.as(key, taken));
            }
        }
        for (int far : new int[] {Edges.MIN, -1, 5, Edges.MAX}) {
            Edges.refused(Edges::busy, "key " + far, Edges.UNKNOWN, x -> x.as(far, 5));
            Edges.refused(Edges::busy, "kind " + far, Edges.OUTSIDE, x -> x.as(3, far));
        }
        Edges.refused(Edges::busy, "key 4", Edges.UNKNOWN, x -> x.as(4, 0));
    }
}
