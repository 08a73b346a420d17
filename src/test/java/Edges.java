import java.io.IOException;
import java.nio.charset.StandardCharsets;
import java.nio.file.Files;
import java.nio.file.Path;
import java.util.ArrayList;
import java.util.List;
import java.util.regex.Matcher;
import java.util.regex.Pattern;

/** What the tests of boundary sentences share: the document's sentences, a busy world, and pictures of all that can be seen. */
final class Edges {
    static final int NONE = -1, UNKNOWN = -2, OUTSIDE = -3, NOT = -4, FULL = -5, NULL = -11, CAST = -12, INDEX = -13, SIZE = -14, STORE = -15, ZERO = -16;
    static final int MIN = Integer.MIN_VALUE, MAX = Integer.MAX_VALUE;
    private static final int PROMISES = 35;
    private static final String DOC = document();
    private static final String[] BODIES = new String[PROMISES + 1];
    private static final List<List<String>> QUOTED = new ArrayList<>();
    private static String sentence = "";

    static {
        for (int p = 0; p <= PROMISES; p++) {
            QUOTED.add(new ArrayList<>());
            BODIES[p] = p == 0 ? DOC : body(p);
        }
    }

    interface Maker {
        WardWalkers make();
    }

    interface Call {
        long on(WardWalkers x);
    }

    private Edges() { }

    /** Its words; none where it can not be read: then the class is tested all the same, the quotes are not. */
    private static String document() {
        try {
            return Files.readString(Path.of("../shared/DOC.md"), StandardCharsets.UTF_8).replaceAll("\\s+", " ");
        } catch (IOException e) {
            System.out.println("../shared/DOC.md can not be read: no quote is looked up in it");
            return "";
        }
    }

    private static String body(int promise) {
        Matcher m = Pattern.compile("## Promise " + promise + ": .*?`: (.*?) ## ").matcher(DOC);
        return m.find() ? m.group(1) : "";
    }

    /** The sentence that the checks from here on test; it must stand in the document. */
    static void says(String quote) {
        promise(0, quote);
    }

    static void promise(int promise, String quote) {
        sentence = (promise == 0 ? "" : "promise " + promise + ": ") + quote;
        Check.due("the document says '" + sentence + "'", DOC.isEmpty() || BODIES[promise].contains(quote) ? 1 : 0, 1);
        QUOTED.get(promise).add(quote);
    }

    /** Each word of each promise must have been quoted by now. */
    static void allPromisesQuoted() {
        for (int p = 1; p <= PROMISES && !DOC.isEmpty(); p++) {
            String left = BODIES[p];
            for (String quote : QUOTED.get(p)) {
                left = left.replace(quote, "");
            }
            Check.due("promise " + p + " has words without a test: '" + left + "'", left.isBlank() && !BODIES[p].isEmpty() ? 1 : 0, 1);
        }
    }

    static void due(String what, long got, long want) {
        Check.due("[" + sentence + "] " + what, got, want);
    }

    /** The call is refused, and behind it all that can be seen is as if it had not been made. */
    static void refused(Maker maker, String what, long want, Call call) {
        WardWalkers x = maker.make();
        due(what, call.on(x), want);
        due(what + " changes nothing", picture(x).equals(picture(maker.make())) ? 1 : 0, 1);
        WardWalkers y = maker.make();
        call.on(y);
        due(what + " leaves the text", landing(y).equals(landing(maker.make())) ? 1 : 0, 1);
    }

    /** The call answers so, and nothing changes, as with a call that is refused. */
    static void foretold(Maker maker, String what, long want, Call call) {
        refused(maker, what, want, call);
    }

    /** One of each: keys of all kinds, one broken, one bent; an open lock; racks; letters; kept, seen, to undo. */
    static WardWalkers busy() {
        WardWalkers x = Check.told("dark 30;brass 1;rusty 3 1;master 3;filed 3 1;lock 11 1 0 5;lock 11 2 0 7;lock 13 5 0 9;walker 11;walker 0");
        x.tries(0, 0, 0);
        x.shut(0);
        x.tries(0, 0, 0);
        x.shut(0);
        x.tries(0, 0, 0);
        x.tries(0, 1, 1);
        x.keep(0);
        x.day();
        x.seen(0, 1);
        x.seen(1, 0);
        x.rack(0, 0, 3);
        x.hang(0, 0, 0, 11);
        x.hang(0, 0, 1, 12);
        x.hang(0, 0, 2, 13);
        x.rack(1, 2, 2);
        x.hang(1, 2, 0, 7);
        x.hang(1, 2, 1, -1);
        x.rack(2, 4, 4);
        x.hang(2, 4, 3, 1);
        Check.put(x, "walk");
        return x;
    }

    /** All that can be seen of it, and what it can undo and bring back; the object is used up by it. */
    static String picture(WardWalkers x) {
        StringBuilder row = new StringBuilder();
        seenNow(x, row);
        for (int r = 0; r < 4; r++) {
            for (int lane = 0; lane < 5; lane++) {
                row.append(x.hang(r, lane, -1, 0)).append(' ');
            }
            for (int i = 0; i <= 24 && x.look(r, i) >= 0; i++) {
                row.append(x.look(r, i)).append(' ');
            }
        }
        for (int what = 0; what < 3; what++) {
            row.append(x.cuts(what)).append(' ');
        }
        for (int k = 0; k < x.count(0); k++) {
            row.append(x.how(k)).append(' ');
        }
        while (x.undo() != NOT) {
            seenNow(x, row.append("undone: "));
        }
        for (int k = 0; k < 2; k++) {
            row.append("back: ").append(x.back(k)).append(' ');
            seenNow(x, row);
        }
        return row.toString();
    }

    /** What becomes of its text with "er7" behind it; the object is used up by it. */
    private static String landing(WardWalkers x) {
        StringBuilder row = new StringBuilder();
        row.append(x.fault()).append(' ').append(x.write('e')).append(x.write('r')).append(x.write('7')).append(' ').append(x.land()).append(' ');
        seenNow(x, row);
        return row.toString();
    }

    private static void seenNow(WardWalkers x, StringBuilder row) {
        for (int what = 0; what <= 12; what++) {
            row.append(x.count(what)).append(' ');
        }
        for (int k = 0; k < x.count(0); k++) {
            for (int what = 0; what < 7; what++) {
                row.append(x.key(k, what)).append(' ');
            }
        }
        for (int l = 0; l < x.count(1); l++) {
            for (int what = 0; what < 5; what++) {
                row.append(x.lock(l, what)).append(' ');
            }
        }
        for (int w = 0; w < x.count(2); w++) {
            row.append(x.walker(w, 0)).append(' ').append(x.walker(w, 1)).append(' ');
        }
    }

    /** The text with as many more of a clause behind it as told. */
    static String with(String text, String clause, int times) {
        StringBuilder row = new StringBuilder(text);
        for (int i = 0; i < times; i++) {
            row.append(row.length() == 0 ? "" : ";").append(clause);
        }
        return row.toString();
    }

    /** Key k is bent so often more, by locks that lie where walker 0 stands and want one ward more than it has. */
    static void bend(WardWalkers x, int k, int times) {
        for (int i = 0; i < times; i++) {
            int lock = 0;
            while (lock < x.count(1) && x.goes(k, lock, 0) != 1) {
                lock++;
            }
            due("it bends", x.tries(0, k, lock), 1);
        }
    }
}
