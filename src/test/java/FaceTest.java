import java.lang.reflect.Constructor;
import java.lang.reflect.Field;
import java.lang.reflect.Method;
import java.lang.reflect.Modifier;
import java.util.Set;
import java.util.TreeSet;

/** The public face, and promise 1. */
public final class FaceTest {
    private static final String[] METHODS = {
        "int write(int)", "int erase()", "int fault()", "int land()", "int key(int,int)", "int lock(int,int)",
        "int walker(int,int)", "int goes(int,int,int)", "int as(int,int)", "int tries(int,int,int)", "int shut(int)",
        "int mend(int)", "int day()", "int undo()", "int keep(int)", "int back(int)", "int belongs(int)", "int openers(int)",
        "int twins(int)", "int match(int)", "int work(int)", "int seen(int,int)", "int forget()", "int cuts(int)",
        "int how(int)", "int odds(int,int,int,int)", "int rack(int,int,int)", "int hang(int,int,int,long)",
        "long look(int,int)", "int copy(int,int,int,int,int)", "int drop(int)", "long share(int,int)",
        "int film(int,int,int)", "int count(int)"};
    private static final String[] CONSTANTS = {
        "NONE=-1", "UNKNOWN=-2", "OUTSIDE=-3", "NOT=-4", "FULL=-5", "NULL=-11", "CAST=-12", "INDEX=-13", "SIZE=-14",
        "STORE=-15", "ZERO=-16"};

    public static void main(String[] args) throws Exception {
        Set<String> open = new TreeSet<>();
        for (Method m : WardWalkers.class.getDeclaredMethods()) {
            if (!Modifier.isPrivate(m.getModifiers())) {
                StringBuilder row = new StringBuilder(m.getReturnType() + " " + m.getName() + "(");
                for (Class<?> p : m.getParameterTypes()) {
                    row.append(row.charAt(row.length() - 1) == '(' ? "" : ",").append(p);
                }
                open.add(row.append(")").toString());
                Check.due("public and of the object: " + row, m.getModifiers(), Modifier.PUBLIC);
            }
        }
        Check.due("methods " + open, open.equals(new TreeSet<>(Set.of(METHODS))) ? 1 : 0, 1);
        Set<String> constants = new TreeSet<>();
        for (Field f : WardWalkers.class.getDeclaredFields()) {
            if (!Modifier.isPrivate(f.getModifiers())) {
                constants.add(f.getName() + "=" + f.getInt(null));
                Check.due(f.getName(), f.getModifiers(), Modifier.PUBLIC | Modifier.STATIC | Modifier.FINAL);
            }
        }
        Check.due("constants " + constants, constants.equals(new TreeSet<>(Set.of(CONSTANTS))) ? 1 : 0, 1);
        Constructor<?>[] makers = WardWalkers.class.getDeclaredConstructors();
        Check.due("constructors", makers.length, 1);
        Check.due("its modifiers", makers[0].getModifiers(), Modifier.PUBLIC);
        Check.due("its parameters", makers[0].getParameterCount(), 0);
        Check.due("the class", WardWalkers.class.getModifiers(), Modifier.PUBLIC | Modifier.FINAL);
        aNewObject();
        Check.end("FaceTest");
    }

    private static void aNewObject() {
        WardWalkers x = new WardWalkers();
        for (int what = 0; what <= 12; what++) {
            Check.due("count(" + what + ") of a new object", x.count(what), what == 3 ? 60 : 0);
        }
        Check.due("key", x.key(0, 0), WardWalkers.UNKNOWN);
        Check.due("lock", x.lock(0, 0), WardWalkers.UNKNOWN);
        Check.due("walker", x.walker(0, 0), WardWalkers.UNKNOWN);
        for (int r = 0; r < 4; r++) {
            Check.due("rack", x.look(r, 0), WardWalkers.NULL);
        }
        Check.due("kept", x.back(0), WardWalkers.NOT);
        Check.due("undone", x.undo(), WardWalkers.NOT);
        Check.due("fault of no text", x.fault(), 0);
    }
}
