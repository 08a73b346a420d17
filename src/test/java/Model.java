import java.lang.reflect.Array;
import java.util.ArrayDeque;
import java.util.ArrayList;
import java.util.Deque;
import java.util.List;
import java.util.TreeSet;
import java.util.regex.Matcher;
import java.util.regex.Pattern;

/** The document once more, as plainly as can be and with other means than the class: sets of wards, all ways tried out. */
final class Model {
    static final int NONE = -1, UNKNOWN = -2, OUTSIDE = -3, NOT = -4, FULL = -5, NULL = -11, CAST = -12, INDEX = -13, SIZE = -14, STORE = -15, ZERO = -16;
    private static final List<String> KINDS = List.of("brass", "rusty", "master", "filed");

    private static final class Key implements Cloneable {
        String kind;
        int cut, mark, bent, turned;
    }

    private static final class Lock {
        int place, wanted, play, value;
        boolean open;
    }

    private static final class Walker {
        int told, place, minute;
    }

    /** All that is told and done; it is copied whole to be kept or undone. */
    private static final class State {
        List<Key> keys = new ArrayList<>();
        List<Lock> locks = new ArrayList<>();
        List<Walker> walkers = new ArrayList<>();
        int dark = 60, day, found;
        String text = "";

        State whole() {
            State s = new State();
            for (Key k : keys) {
                s.keys.add(key(k.kind, k.cut, k.mark, k.bent, k.turned));
            }
            for (Lock l : locks) {
                s.locks.add(lock(l.place, l.wanted, l.play, l.value, l.open));
            }
            for (Walker w : walkers) {
                s.walkers.add(walker(w.told, w.place, w.minute));
            }
            s.dark = dark;
            s.day = day;
            s.found = found;
            s.text = text;
            return s;
        }
    }

    private State now = new State();
    private final State[] kept = new State[2];
    private final Deque<State> past = new ArrayDeque<>();
    private final List<int[]> seen = new ArrayList<>();
    private final Object[] racks = new Object[4];

    private static Key key(String kind, int cut, int mark, int bent, int turned) {
        Key k = new Key();
        k.kind = kind;
        k.cut = cut;
        k.mark = mark;
        k.bent = bent;
        k.turned = turned;
        return k;
    }

    private static Lock lock(int place, int wanted, int play, int value, boolean open) {
        Lock l = new Lock();
        l.place = place;
        l.wanted = wanted;
        l.play = play;
        l.value = value;
        l.open = open;
        return l;
    }

    private static Walker walker(int told, int place, int minute) {
        Walker w = new Walker();
        w.told = told;
        w.place = place;
        w.minute = minute;
        return w;
    }

    private static TreeSet<Integer> wards(int bits) {
        TreeSet<Integer> set = new TreeSet<>();
        for (int w = 0; w < 9; w++) {
            if ((bits & 1 << w) != 0) {
                set.add(w);
            }
        }
        return set;
    }

    private static int bits(Iterable<Integer> set) {
        int bits = 0;
        for (int i : set) {
            bits |= 1 << i;
        }
        return bits;
    }

    private static TreeSet<Integer> edge(Key k, int bent) {
        TreeSet<Integer> round = new TreeSet<>();
        for (int w : wards(k.cut)) {
            round.add((w + bent) % 9);
        }
        for (int i = 0; i < k.mark && !round.isEmpty(); i++) {
            if (k.kind.equals("rusty")) {
                round.pollLast();
            } else if (k.kind.equals("filed")) {
                round.pollFirst();
            }
        }
        return round;
    }

    private static int room(Key k, int play) {
        return switch (k.kind) {
            case "rusty" -> play + 1;
            case "master" -> 9;
            default -> play;
        };
    }

    private static int lacking(Key k, int bent, Lock l) {
        TreeSet<Integer> rest = wards(l.wanted);
        rest.removeAll(edge(k, bent));
        return rest.size();
    }

    private static int over(Key k, int bent, Lock l) {
        TreeSet<Integer> rest = edge(k, bent);
        rest.removeAll(wards(l.wanted));
        return rest.size();
    }

    private static boolean fits(Key k, int bent, Lock l) {
        return lacking(k, bent, l) == 0 && over(k, bent, l) <= room(k, l.play);
    }

    private static boolean in(int i, int low, int high) {
        return i >= low && i <= high;
    }

    private static boolean of(int i, List<?> row) {
        return i >= 0 && i < row.size();
    }

    private static int distance(int a, int b) {
        return Math.abs(a / 10 - b / 10) + Math.abs(a % 10 - b % 10);
    }

    // ---- the text

    private int read(State s) {
        List<String> tokens = new ArrayList<>();
        List<Integer> places = new ArrayList<>();
        Matcher m = Pattern.compile("[a-z]+|[0-9]+|[^ ]", Pattern.DOTALL).matcher(now.text);
        while (m.find()) {
            tokens.add(m.group());
            places.add(m.start());
        }
        tokens.add("end");
        places.add(now.text.length());
        int clauses = 0;
        for (int t = 0;;) {
            String word = tokens.get(t);
            int[] bounds = bounds(word);
            boolean full = KINDS.contains(word) && s.keys.size() == 7 || word.equals("lock") && s.locks.size() == 7
                || word.equals("walker") && s.walkers.size() == 3;
            if (t == tokens.size() - 1 || bounds == null || full) {
                return places.get(t);
            }
            int[] n = new int[4];
            for (int b = 0; b < bounds.length; b++) {
                t++;
                if (t == tokens.size() - 1 || !tokens.get(t).matches("[0-9]{1,3}")) {
                    return places.get(t);
                }
                n[b] = Integer.parseInt(tokens.get(t));
                if (n[b] > bounds[b] || n[b] < 10 && word.equals("dark")) {
                    return places.get(t);
                }
            }
            tell(s, word, n);
            clauses++;
            t++;
            if (t == tokens.size() - 1) {
                return -1 - clauses;
            }
            if (!tokens.get(t).equals(";") || clauses == 20) {
                return places.get(t);
            }
            t++;
        }
    }

    private static int[] bounds(String word) {
        return switch (word) {
            case "land" -> new int[] {};
            case "brass", "master" -> new int[] {511};
            case "rusty", "filed" -> new int[] {511, 9};
            case "lock" -> new int[] {99, 511, 3, 30};
            case "walker", "dark" -> new int[] {99};
            default -> null;
        };
    }

    private static void tell(State s, String word, int[] n) {
        switch (word) {
            case "land" -> {
                s.keys.clear();
                s.locks.clear();
                s.walkers.clear();
                s.dark = 60;
            }
            case "lock" -> s.locks.add(lock(n[0], n[1], n[2], n[3], false));
            case "walker" -> s.walkers.add(walker(n[0], n[0], 0));
            case "dark" -> s.dark = n[0];
            default -> s.keys.add(key(word, n[0], n[1], 0, 0));
        }
    }

    private int land() {
        State s = now.whole();
        int read = read(s);
        if (read >= 0) {
            return NOT;
        }
        now = s;
        now.text = "";
        now.day = 0;
        now.found = 0;
        for (Key k : now.keys) {
            k.bent = 0;
            k.turned = 0;
        }
        for (Lock l : now.locks) {
            l.open = false;
        }
        for (Walker w : now.walkers) {
            w.place = w.told;
            w.minute = 0;
        }
        seen.clear();
        past.clear();
        kept[0] = null;
        kept[1] = null;
        return -1 - read;
    }

    // ---- calls, by name

    long call(String name, int[] a, long v) {
        return switch (name) {
            case "write" -> write(a[0]);
            case "erase" -> erase();
            case "fault" -> Math.max(NONE, read(now.whole()));
            case "land" -> land();
            case "key" -> key(a[0], a[1]);
            case "lock" -> lock(a[0], a[1]);
            case "walker" -> walker(a[0], a[1]);
            case "goes" -> goes(a[0], a[1], a[2]);
            case "as" -> as(a[0], a[1]);
            case "tries" -> tries(a[0], a[1], a[2]);
            case "shut" -> shut(a[0]);
            case "mend" -> mend(a[0]);
            case "day" -> day();
            case "undo" -> undo();
            case "keep" -> keep(a[0]);
            case "back" -> back(a[0]);
            case "belongs" -> of(a[0], now.keys) ? belongs(now.keys.get(a[0])) : UNKNOWN;
            case "openers" -> of(a[0], now.locks) ? openers(now.locks.get(a[0])) : UNKNOWN;
            case "twins" -> twins(a[0]);
            case "match" -> match(a[0]);
            case "work" -> work(a[0]);
            case "seen" -> seen(a[0], a[1]);
            case "forget" -> forget();
            case "cuts" -> cuts(a[0]);
            case "how" -> how(a[0]);
            case "odds" -> odds(a[0], a[1], a[2], a[3]);
            case "rack" -> rack(a[0], a[1], a[2]);
            case "hang" -> hang(a[0], a[1], a[2], v);
            case "look" -> look(a[0], a[1]);
            case "copy" -> copy(a[0], a[1], a[2], a[3], a[4]);
            case "drop" -> drop(a[0]);
            case "share" -> share(a[0], a[1]);
            case "film" -> film(a[0], a[1], a[2]);
            default -> count(a[0]);
        };
    }

    private int write(int letter) {
        if (!in(letter, 0, 255)) {
            return OUTSIDE;
        }
        if (now.text.length() == 200) {
            return FULL;
        }
        now.text += (char) letter;
        return now.text.length();
    }

    private int erase() {
        int had = now.text.length();
        now.text = "";
        return had;
    }

    private int key(int key, int what) {
        if (!of(key, now.keys)) {
            return UNKNOWN;
        }
        Key k = now.keys.get(key);
        int[] told = {KINDS.indexOf(k.kind), k.cut, k.mark, k.bent, k.turned, bits(edge(k, k.bent)), k.turned == 3 ? 1 : 0};
        return in(what, 0, 6) ? told[what] : OUTSIDE;
    }

    private int lock(int lock, int what) {
        if (!of(lock, now.locks)) {
            return UNKNOWN;
        }
        Lock l = now.locks.get(lock);
        int[] told = {l.place, l.wanted, l.play, l.value, l.open ? 1 : 0};
        return in(what, 0, 4) ? told[what] : OUTSIDE;
    }

    private int walker(int walker, int what) {
        if (!of(walker, now.walkers)) {
            return UNKNOWN;
        }
        Walker w = now.walkers.get(walker);
        return in(what, 0, 1) ? new int[] {w.place, w.minute}[what] : OUTSIDE;
    }

    private int goes(int key, int lock, int what) {
        if (!of(key, now.keys) || !of(lock, now.locks)) {
            return UNKNOWN;
        }
        Key k = now.keys.get(key);
        Lock l = now.locks.get(lock);
        int[] told = {lacking(k, k.bent, l), over(k, k.bent, l), fits(k, k.bent, l) ? 1 : 0};
        return in(what, 0, 2) ? told[what] : OUTSIDE;
    }

    private int as(int key, int kind) {
        if (!of(key, now.keys)) {
            return UNKNOWN;
        }
        if (!in(kind, 0, 4)) {
            return OUTSIDE;
        }
        Key k = now.keys.get(key);
        String over = switch (k.kind) {
            case "brass" -> "01";
            case "rusty" -> "012";
            case "master" -> "013";
            default -> "04";
        };
        return over.indexOf('0' + kind) >= 0 ? room(k, 3) : NOT;
    }

    private void remember() {
        past.push(now.whole());
        if (past.size() > 8) {
            past.removeLast();
        }
    }

    private int tries(int walker, int key, int lock) {
        if (!of(walker, now.walkers) || !of(key, now.keys) || !of(lock, now.locks)) {
            return UNKNOWN;
        }
        Walker w = now.walkers.get(walker);
        Key k = now.keys.get(key);
        Lock l = now.locks.get(lock);
        int minute = w.minute + distance(w.place, l.place) + 2;
        if (k.turned == 3 || l.open || minute > now.dark) {
            return NOT;
        }
        remember();
        w.place = l.place;
        w.minute = minute;
        if (fits(k, k.bent, l)) {
            k.turned++;
            l.open = true;
            now.found += l.value;
            return 2;
        }
        if (lacking(k, k.bent, l) == 1 && !k.kind.equals("master")) {
            k.bent = k.bent == 8 ? 0 : k.bent + 1;
            return 1;
        }
        return 0;
    }

    private int shut(int lock) {
        if (!of(lock, now.locks)) {
            return UNKNOWN;
        }
        if (!now.locks.get(lock).open) {
            return NOT;
        }
        remember();
        now.locks.get(lock).open = false;
        return now.locks.get(lock).value;
    }

    private int mend(int key) {
        if (!of(key, now.keys)) {
            return UNKNOWN;
        }
        Key k = now.keys.get(key);
        int wear = k.bent + k.turned;
        if (wear == 0) {
            return NOT;
        }
        remember();
        k.bent = 0;
        k.turned = 0;
        return wear;
    }

    private int day() {
        if (now.day == 999) {
            return FULL;
        }
        remember();
        for (Walker w : now.walkers) {
            w.minute = 0;
        }
        return ++now.day;
    }

    private int undo() {
        if (past.isEmpty()) {
            return NOT;
        }
        String text = now.text;
        now = past.pop();
        now.text = text;
        return past.size();
    }

    private int keep(int k) {
        if (!in(k, 0, 1)) {
            return UNKNOWN;
        }
        kept[k] = now.whole();
        return now.day;
    }

    private int back(int k) {
        if (!in(k, 0, 1)) {
            return UNKNOWN;
        }
        if (kept[k] == null) {
            return NOT;
        }
        now = kept[k].whole();
        past.clear();
        return now.day;
    }

    private int belongs(Key k) {
        List<Integer> locks = new ArrayList<>();
        for (int l = 0; l < now.locks.size(); l++) {
            if (fits(k, k.bent, now.locks.get(l))) {
                locks.add(l);
            }
        }
        return bits(locks);
    }

    private int openers(Lock l) {
        List<Integer> keys = new ArrayList<>();
        for (int k = 0; k < now.keys.size(); k++) {
            if (fits(now.keys.get(k), now.keys.get(k).bent, l)) {
                keys.add(k);
            }
        }
        return bits(keys);
    }

    private int twins(int i) {
        if (!in(i, -1, 20)) {
            return OUTSIDE;
        }
        TreeSet<Integer> pairs = new TreeSet<>();
        for (int a = 0; a < now.keys.size(); a++) {
            for (int b = a + 1; b < now.keys.size(); b++) {
                if (belongs(now.keys.get(a)) != 0 && belongs(now.keys.get(a)) == belongs(now.keys.get(b))) {
                    pairs.add(10 * a + b);
                }
            }
        }
        if (i == NONE) {
            return pairs.size();
        }
        return i < pairs.size() ? new ArrayList<>(pairs).get(i) : NONE;
    }

    private int[] best;
    private int bestSize;

    private int match(int lock) {
        if (lock != NONE && !of(lock, now.locks)) {
            return UNKNOWN;
        }
        best = null;
        bestSize = -1;
        tryAll(0, new int[now.locks.size()], 0);
        return lock == NONE ? bestSize : best[lock];
    }

    private void tryAll(int l, int[] way, int size) {
        if (l == way.length) {
            if (size > bestSize) {
                bestSize = size;
                best = way.clone();
            }
            return;
        }
        for (int k = 0; k < now.keys.size(); k++) {
            boolean free = true;
            for (int before = 0; before < l; before++) {
                free &= way[before] != k;
            }
            Key key = now.keys.get(k);
            if (free && !now.locks.get(l).open && key.turned < 3 && fits(key, key.bent, now.locks.get(l))) {
                way[l] = k;
                tryAll(l + 1, way, size + 1);
            }
        }
        way[l] = NONE;
        tryAll(l + 1, way, size);
    }

    private int fewest;

    private int work(int n) {
        if (!in(n, 1, 7)) {
            return OUTSIDE;
        }
        List<Lock> open = new ArrayList<>();
        for (Lock l : now.locks) {
            boolean can = false;
            for (Key k : now.keys) {
                can |= k.turned < 3 && fits(k, k.bent, l);
            }
            if (can && !l.open) {
                open.add(l);
            }
        }
        fewest = Integer.MAX_VALUE;
        for (int w = 0; w < now.walkers.size(); w++) {
            walk(w, now.walkers.get(w).place, now.walkers.get(w).minute, open, n, 0);
        }
        return fewest == Integer.MAX_VALUE ? NONE : fewest;
    }

    /** Walker w stands there then; it goes on, or those behind it start. */
    private void walk(int w, int place, int minute, List<Lock> left, int n, int latest) {
        for (Lock l : left) {
            List<Lock> rest = new ArrayList<>(left);
            rest.remove(l);
            int there = minute + distance(place, l.place) + 2;
            int late = Math.max(latest, there);
            if (n == 1) {
                fewest = Math.min(fewest, late);
            } else {
                walk(w, l.place, there, rest, n - 1, late);
                for (int other = w + 1; other < now.walkers.size(); other++) {
                    walk(other, now.walkers.get(other).place, now.walkers.get(other).minute, rest, n - 1, late);
                }
            }
        }
    }

    private int seen(int lock, int went) {
        if (!of(lock, now.locks)) {
            return UNKNOWN;
        }
        if (!in(went, 0, 1)) {
            return OUTSIDE;
        }
        if (seen.size() == 6) {
            return FULL;
        }
        seen.add(new int[] {lock, went});
        return seen.size();
    }

    private int forget() {
        int had = seen.size();
        seen.clear();
        return had;
    }

    private boolean asSeen(Key k, int bent) {
        for (int[] s : seen) {
            if (fits(k, bent, now.locks.get(s[0])) != (s[1] == 1)) {
                return false;
            }
        }
        return true;
    }

    private int cuts(int what) {
        if (!in(what, 0, 2)) {
            return OUTSIDE;
        }
        List<TreeSet<Integer>> all = new ArrayList<>();
        for (int cut = 0; cut < 512; cut++) {
            if (asSeen(key("brass", cut, 0, 0, 0), 0)) {
                all.add(wards(cut));
            }
        }
        if (what == 0) {
            return all.size();
        }
        TreeSet<Integer> set = new TreeSet<>();
        for (TreeSet<Integer> one : all) {
            set.addAll(one);
        }
        for (TreeSet<Integer> one : all) {
            if (what == 1) {
                set.retainAll(one);
            }
        }
        return bits(set);
    }

    private int how(int key) {
        if (!of(key, now.keys)) {
            return UNKNOWN;
        }
        List<Integer> times = new ArrayList<>();
        for (int b = 0; b < 9; b++) {
            if (asSeen(now.keys.get(key), b)) {
                times.add(b);
            }
        }
        return bits(times);
    }

    private int odds(int keys, int lock, int m, int part) {
        if (!of(lock, now.locks) || keys < 0 || keys >= 1 << now.keys.size()) {
            return UNKNOWN;
        }
        if (!in(m, 0, 7) || !in(part, 0, 1)) {
            return OUTSIDE;
        }
        if (keys == 0) {
            return ZERO;
        }
        int drawn = Math.min(m, Integer.bitCount(keys));
        int all = 0;
        int good = 0;
        for (int set = 0; set < 128; set++) {
            if ((set & ~keys) == 0 && Integer.bitCount(set) == drawn) {
                all++;
                good += (set & openers(now.locks.get(lock))) != 0 ? 1 : 0;
            }
        }
        return (int) lowest(good, all)[part];
    }

    private static long[] lowest(long above, long below) {
        for (long d = below; d > 1; d--) {
            if (above % d == 0 && below % d == 0) {
                return new long[] {above / d, below / d};
            }
        }
        return new long[] {above, below};
    }

    // ---- racks: rows of the machine itself

    private static final List<Class<?>> LANES = List.of(byte[].class, short[].class, int[].class, long[].class, boolean[].class);

    private int rack(int rack, int lane, int n) {
        if (!in(rack, 0, 3)) {
            return UNKNOWN;
        }
        if (!in(lane, 0, 4) || n > 24) {
            return OUTSIDE;
        }
        if (n < 0) {
            return SIZE;
        }
        racks[rack] = Array.newInstance(LANES.get(lane).getComponentType(), n);
        return n;
    }

    private int hang(int rack, int lane, int i, long v) {
        if (!in(rack, 0, 3)) {
            return UNKNOWN;
        }
        if (!in(lane, 0, 4)) {
            return OUTSIDE;
        }
        if (racks[rack] == null) {
            return NULL;
        }
        if (racks[rack].getClass() != LANES.get(lane)) {
            return CAST;
        }
        if (!in(i, 0, Array.getLength(racks[rack]) - 1)) {
            return INDEX;
        }
        Object[] things = {(byte) v, (short) v, (int) v, v, Math.floorMod(v, 2L) == 1};
        Array.set(racks[rack], i, things[lane]);
        return 1;
    }

    private long look(int rack, int i) {
        if (!in(rack, 0, 3)) {
            return UNKNOWN;
        }
        if (racks[rack] == null) {
            return NULL;
        }
        if (!in(i, 0, Array.getLength(racks[rack]) - 1)) {
            return INDEX;
        }
        Object thing = Array.get(racks[rack], i);
        long v = thing instanceof Boolean ? ((Boolean) thing ? 1 : 0) : ((Number) thing).longValue();
        if (v < 0) {
            return -(v + 1) % 1000003 + 3000000000000L;
        }
        return v > 1000000000000L ? v % 1000003 + 2000000000000L : v;
    }

    private int copy(int from, int i, int to, int j, int n) {
        if (!in(from, 0, 3) || !in(to, 0, 3)) {
            return UNKNOWN;
        }
        if (racks[from] == null || racks[to] == null) {
            return NULL;
        }
        try {
            System.arraycopy(racks[from], i, racks[to], j, n);
        } catch (ArrayStoreException e) {
            return STORE;
        } catch (IndexOutOfBoundsException e) {
            return INDEX;
        }
        return n;
    }

    private int drop(int rack) {
        if (!in(rack, 0, 3)) {
            return UNKNOWN;
        }
        if (racks[rack] == null) {
            return NULL;
        }
        int had = Array.getLength(racks[rack]);
        racks[rack] = null;
        return had;
    }

    private long share(int rack, int part) {
        if (!in(rack, 0, 3)) {
            return UNKNOWN;
        }
        if (!in(part, 0, 1)) {
            return OUTSIDE;
        }
        if (racks[rack] == null) {
            return NULL;
        }
        if (!(racks[rack] instanceof int[])) {
            return CAST;
        }
        int[] row = (int[]) racks[rack];
        if (row.length == 0) {
            return ZERO;
        }
        long sum = 0;
        for (int i : row) {
            sum += i;
        }
        return lowest(sum, row.length)[part] + (part == 0 ? 100000000000L : 0);
    }

    private int film(int key, int rack, int i) {
        if (!of(key, now.keys) || !in(rack, 0, 3)) {
            return UNKNOWN;
        }
        if (racks[rack] == null) {
            return NULL;
        }
        if (!(racks[rack] instanceof boolean[])) {
            return CAST;
        }
        boolean[] row = (boolean[]) racks[rack];
        if (i < 0 || (long) i + now.locks.size() > row.length) {
            return INDEX;
        }
        for (int l = 0; l < now.locks.size(); l++) {
            row[i + l] = (belongs(now.keys.get(key)) & 1 << l) != 0;
        }
        return now.locks.size();
    }

    private int count(int what) {
        List<Integer> open = new ArrayList<>();
        List<Integer> broken = new ArrayList<>();
        int latest = 0;
        int there = 0;
        for (int l = 0; l < now.locks.size(); l++) {
            if (now.locks.get(l).open) {
                open.add(l);
            }
        }
        for (int k = 0; k < now.keys.size(); k++) {
            if (now.keys.get(k).turned == 3) {
                broken.add(k);
            }
        }
        for (Walker w : now.walkers) {
            latest = Math.max(latest, w.minute);
        }
        for (Object rack : racks) {
            there += rack == null ? 0 : 1;
        }
        int[] told = {now.keys.size(), now.locks.size(), now.walkers.size(), now.dark, now.day, bits(open), bits(broken),
            now.found, latest, seen.size(), there, past.size(), now.text.length()};
        return in(what, 0, 12) ? told[what] : OUTSIDE;
    }
}
