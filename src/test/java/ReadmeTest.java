import java.lang.reflect.Method;
import java.nio.file.Files;
import java.nio.file.Path;
import java.util.Set;
import java.util.TreeSet;
import java.util.regex.Matcher;
import java.util.regex.Pattern;

/** What README.md tells: its run answers as it says there, and it names each call and each constant. */
public final class ReadmeTest {
    private static final Pattern TEXT = Pattern.compile("String text = \"([^\"]*)\";");
    private static final Pattern CALL = Pattern.compile("(?m)^x\\.(\\w+)\\(([-\\d, ]*)\\); +// (-?\\d+)(?: \\((\\w+)\\))?:");

    public static void main(String[] args) throws Exception {
        String page = Files.readString(Path.of("README.md"));
        theRun(page);
        theNames(page);
        Check.end("ReadmeTest");
    }

    private static void theRun(String page) throws Exception {
        WardWalkers x = new WardWalkers();
        Matcher text = TEXT.matcher(page);
        Check.due("a text is told", text.find() ? 1 : 0, 1);
        Check.put(x, text.group(1));
        Matcher call = CALL.matcher(page);
        int calls = 0;
        while (call.find()) {
            calls++;
            Check.due(call.group(), answer(x, call.group(1), call.group(2)), Long.parseLong(call.group(3)));
            if (call.group(4) != null) {
                Check.due(call.group(4), WardWalkers.class.getField(call.group(4)).getInt(null), Long.parseLong(call.group(3)));
            }
        }
        Check.due("each call of the run is read", calls, Pattern.compile("(?m)^x\\.").matcher(page).results().count());
        Check.due("there are calls", calls > 0 ? 1 : 0, 1);
    }

    private static long answer(WardWalkers x, String name, String numbers) throws Exception {
        String[] parts = numbers.isEmpty() ? new String[0] : numbers.split(", *");
        for (Method m : WardWalkers.class.getMethods()) {
            if (m.getName().equals(name) && m.getParameterCount() == parts.length) {
                Object[] given = new Object[parts.length];
                for (int i = 0; i < parts.length; i++) {
                    boolean isLong = m.getParameterTypes()[i] == long.class;
                    given[i] = isLong ? (Object) Long.valueOf(parts[i]) : (Object) Integer.valueOf(parts[i]);
                }
                return ((Number) m.invoke(x, given)).longValue();
            }
        }
        throw new IllegalArgumentException("no call " + name + " of " + parts.length + " numbers");
    }

    private static void theNames(String page) throws Exception {
        Set<String> named = new TreeSet<>();
        Pattern.compile("`(\\w+)`").matcher(page).results().forEach(m -> named.add(m.group(1)));
        for (Method m : WardWalkers.class.getDeclaredMethods()) {
            if (java.lang.reflect.Modifier.isPublic(m.getModifiers())) {
                Check.due("named: " + m.getName(), named.contains(m.getName()) ? 1 : 0, 1);
            }
        }
        for (java.lang.reflect.Field f : WardWalkers.class.getFields()) {
            Check.due("told: " + f.getName(), page.contains("`" + f.getName() + "` " + f.getInt(null)) ? 1 : 0, 1);
        }
    }
}
