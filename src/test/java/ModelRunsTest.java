/** Long runs of calls on the class and on the model: each answer is the same, and all that can be asked stays the same. */
public final class ModelRunsTest {
    private static final String[] CALLS = {
        "write", "erase", "fault", "land", "key", "lock", "walker", "goes", "as", "tries", "tries", "tries", "tries", "tries", "tries",
        "shut", "shut", "mend", "day", "undo", "undo", "keep", "back", "belongs", "openers", "twins", "match", "match", "work", "work",
        "seen", "seen", "forget", "cuts", "cuts", "how", "odds", "odds", "rack", "hang", "hang", "look", "copy", "copy", "drop",
        "share", "film", "count"};
    private static final int[] WILD = {-1, -2, 2, 3, 4, 5, 6, 7, 8, 24, 25, 255, 256, Integer.MIN_VALUE, Integer.MAX_VALUE, 1 << 30};
    private static final long[] WILD_LONGS = {0, 1, -1, 127, 128, 40000, 1L << 31, -(1L << 31), 1000000000000L, 1000000000001L,
        -1000004, Long.MIN_VALUE, Long.MAX_VALUE, 4294967299L};

    private static long seed;

    private static int below(int n) {
        seed = seed * 6364136223846793005L + 1442695040888963407L;
        return (int) ((seed >>> 33) % n);
    }

    public static void main(String[] args) {
        for (int run = 1; run <= 400; run++) {
            seed = run;
            oneRun(run);
        }
        Check.end("ModelRunsTest");
    }

    private static void oneRun(int run) {
        WardWalkers x = new WardWalkers();
        Model model = new Model();
        String text = aText();
        for (int c = 0; c < 500; c++) {
            if (c < text.length()) {
                both(run, x, model, "write", new int[] {text.charAt(c), 0, 0, 0, 0}, 0);
            } else if (c == text.length()) {
                both(run, x, model, "land", new int[5], 0);
            } else if (below(150) == 0) {
                c += write(run, x, model, below(3) == 0 ? aText() : aClause(new int[] {3, 5, 6}));
                both(run, x, model, "land", new int[5], 0);
            } else {
                oneCall(run, x, model);
            }
            if (c % 25 == 0) {
                all(run, x, model);
            }
        }
        all(run, x, model);
    }

    private static int write(int run, WardWalkers x, Model model, String text) {
        both(run, x, model, "erase", new int[5], 0);
        for (int i = 0; i < text.length(); i++) {
            both(run, x, model, "write", new int[] {text.charAt(i), 0, 0, 0, 0}, 0);
        }
        both(run, x, model, "fault", new int[5], 0);
        return text.length();
    }

    /** Mostly a text without a fault, with locks made for its keys. */
    private static String aText() {
        int[] bases = {1 + below(511), 1 + below(511), 1 + below(7)};
        StringBuilder text = new StringBuilder(below(3) == 0 ? "dark 99" : "dark " + (20 + below(80)));
        int keys = below(7) + below(2);
        int locks = below(7) + below(2);
        int walkers = 1 + below(3);
        boolean isFaulty = below(6) == 0;
        for (int c = 0; c < keys + locks + walkers; c++) {
            String clause = isFaulty ? aClause(bases) : c < walkers ? aWalker() : c < walkers + locks ? aLock(bases) : aKey(bases);
            if (text.length() + clause.length() < 198) {
                text.append(below(4) == 0 ? " ; " : ";").append(clause);
            }
        }
        if (isFaulty && below(4) == 0) {
            text.setCharAt(below(text.length()), (char) below(256));
        }
        return text.toString();
    }

    private static int near(int[] bases) {
        int cut = bases[below(bases.length)];
        return below(3) == 0 ? cut ^ 1 << below(9) : cut;
    }

    private static String aWalker() {
        return "walker " + below(100);
    }

    private static String aLock(int[] bases) {
        int wanted = near(bases) & (below(2) == 0 ? below(512) : 511);
        return "lock " + below(below(3) == 0 ? 100 : 30) + " " + wanted + " " + below(4) + " " + below(31);
    }

    private static String aKey(int[] bases) {
        return switch (below(5)) {
            case 0, 1 -> "brass " + near(bases);
            case 2 -> "rusty " + near(bases) + " " + below(below(6) == 0 ? 10 : 3);
            case 3 -> "master " + near(bases);
            default -> "filed " + near(bases) + " " + below(below(6) == 0 ? 10 : 3);
        };
    }

    private static String aClause(int[] bases) {
        int number = below(40) == 0 ? 1000 : below(30) == 0 ? 512 : near(bases);
        return switch (below(10)) {
            case 0 -> below(4) == 0 ? "land" : "dark " + (9 + below(92));
            case 1 -> "brass " + number;
            case 2 -> "rusty " + number + " " + below(11);
            case 3 -> "filed " + number + " " + below(11);
            case 4 -> "walker " + below(101);
            case 5 -> "lock " + below(101) + " " + number + " " + below(5) + " " + below(32);
            case 6 -> aWalker();
            case 7 -> aLock(bases);
            default -> aKey(bases);
        };
    }

    private static void oneCall(int run, WardWalkers x, Model model) {
        int[] a = new int[5];
        for (int i = 0; i < a.length; i++) {
            a[i] = below(12) == 0 ? WILD[below(WILD.length)] : below(below(3) == 0 ? 7 : 3);
        }
        String name = CALLS[below(CALLS.length)];
        if (name.equals("tries") && x.count(0) > 0 && x.count(1) > 0 && x.count(2) > 0 && below(4) != 0) {
            a = new int[] {below(x.count(2)), below(x.count(0)), below(x.count(1)), 0, 0};
        }
        if (name.equals("shut") && below(3) != 0) {
            a[0] = Integer.numberOfTrailingZeros(x.count(5));
        }
        long v = below(2) == 0 ? below(1000) - 500 : WILD_LONGS[below(WILD_LONGS.length)];
        if (name.equals("odds") && below(2) == 0) {
            a[0] = below(1 << x.count(0));
        }
        if (name.equals("rack") && below(2) == 0) {
            a[2] = below(25);
        }
        if (name.equals("twins") && below(2) == 0) {
            a[0] = below(23) - 1;
        }
        both(run, x, model, name, a, v);
    }

    private static void all(int run, WardWalkers x, Model model) {
        for (int what = 0; what <= 12; what++) {
            both(run, x, model, "count", new int[] {what, 0, 0, 0, 0}, 0);
        }
        for (int i = 0; i < 8; i++) {
            for (int what = 0; what < 7; what++) {
                both(run, x, model, "key", new int[] {i, what, 0, 0, 0}, 0);
                both(run, x, model, "lock", new int[] {i, what, 0, 0, 0}, 0);
                both(run, x, model, "walker", new int[] {i, what, 0, 0, 0}, 0);
                both(run, x, model, "goes", new int[] {i, what, 2, 0, 0}, 0);
            }
            both(run, x, model, "match", new int[] {i - 1, 0, 0, 0, 0}, 0);
            both(run, x, model, "work", new int[] {i, 0, 0, 0, 0}, 0);
            for (int thing = 0; thing < 25; thing++) {
                both(run, x, model, "look", new int[] {i, thing, 0, 0, 0}, 0);
            }
        }
    }

    private static void both(int run, WardWalkers x, Model model, String name, int[] a, long v) {
        long due = model.call(name, a, v);
        Check.due("run " + run + ": " + name + java.util.Arrays.toString(a) + " " + v, call(x, name, a, v), due);
    }

    private static long call(WardWalkers x, String name, int[] a, long v) {
        return switch (name) {
            case "write" -> x.write(a[0]);
            case "erase" -> x.erase();
            case "fault" -> x.fault();
            case "land" -> x.land();
            case "key" -> x.key(a[0], a[1]);
            case "lock" -> x.lock(a[0], a[1]);
            case "walker" -> x.walker(a[0], a[1]);
            case "goes" -> x.goes(a[0], a[1], a[2]);
            case "as" -> x.as(a[0], a[1]);
            case "tries" -> x.tries(a[0], a[1], a[2]);
            case "shut" -> x.shut(a[0]);
            case "mend" -> x.mend(a[0]);
            case "day" -> x.day();
            case "undo" -> x.undo();
            case "keep" -> x.keep(a[0]);
            case "back" -> x.back(a[0]);
            case "belongs" -> x.belongs(a[0]);
            case "openers" -> x.openers(a[0]);
            case "twins" -> x.twins(a[0]);
            case "match" -> x.match(a[0]);
            case "work" -> x.work(a[0]);
            case "seen" -> x.seen(a[0], a[1]);
            case "forget" -> x.forget();
            case "cuts" -> x.cuts(a[0]);
            case "how" -> x.how(a[0]);
            case "odds" -> x.odds(a[0], a[1], a[2], a[3]);
            case "rack" -> x.rack(a[0], a[1], a[2]);
            case "hang" -> x.hang(a[0], a[1], a[2], v);
            case "look" -> x.look(a[0], a[1]);
            case "copy" -> x.copy(a[0], a[1], a[2], a[3], a[4]);
            case "drop" -> x.drop(a[0]);
            case "share" -> x.share(a[0], a[1]);
            case "film" -> x.film(a[0], a[1], a[2]);
            default -> x.count(a[0]);
        };
    }
}
