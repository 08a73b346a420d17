/** What the test programs share: due answers, texts told, and the closing line. */
final class Check {
    private static int passed = 0;
    private static int failed = 0;

    private Check() { }

    static void due(String what, long got, long want) {
        if (got == want) {
            passed++;
        } else {
            failed++;
            System.out.println(what + " answered " + got + ", due is " + want);
        }
    }

    static void put(WardWalkers x, String text) {
        for (int i = 0; i < text.length(); i++) {
            x.write(text.charAt(i));
        }
    }

    /** A text is written and landed; it must have no fault. */
    static WardWalkers tell(WardWalkers x, String text) {
        put(x, text);
        due("fault of '" + text + "'", x.fault(), WardWalkers.NONE);
        due("land of '" + text + "'", x.land(), text.split(";", -1).length);
        return x;
    }

    static WardWalkers told(String text) {
        return tell(new WardWalkers(), text);
    }

    static void faultAt(WardWalkers x, String text, int place) {
        x.erase();
        put(x, text);
        due("fault of '" + text + "'", x.fault(), place);
        x.erase();
    }

    static void end(String name) {
        System.out.println(name + ": " + passed + " passed, " + failed + " failed");
        if (failed != 0 || passed == 0) {
            System.exit(1);
        }
    }
}
