import java.nio.file.Files;
import java.nio.file.Path;
import java.util.Map;
import java.util.TreeMap;
import java.util.regex.Matcher;
import java.util.regex.Pattern;

/** The rules of ../shared/LANGUAGE.md that can be seen in the source's text; it is run in the project's folder. */
public final class LanguageTest {
    private static final String[] NEVER = {
        "\\bthrow\\b", "\\bthrows\\b", "\\btry\\b", "\\bcatch\\b", "\\bfinally\\b", "\\bsynchronized\\b", "\\bassert\\b",
        "->", "::", "\\bimport\\b", "\\bpackage\\b", "\\bprotected\\b", "Exact\\b", "@", "\\bvar\\b", "\\bnew \\w+\\([^)]*\\) *\\{",
        "\\bSystem\\.(?!arraycopy)", "\\bObject\\b", "\\bequals\\b", "\\bhashCode\\b", "\\btoString\\b", "\\bprintln\\b"};

    public static void main(String[] args) throws Exception {
        String source = Files.readString(Path.of("src/main/java/WardWalkers.java"));
        String code = source.replaceAll("(?s)/\\*.*?\\*/", "").replaceAll("//[^\n]*", "").replaceAll("\"[^\"\n]*\"", "\"\"");
        for (String never : NEVER) {
            Matcher m = Pattern.compile(never).matcher(code);
            Check.due("never " + never + (m.find() ? ": " + m.group() : ""), m.reset().results().count(), 0);
        }
        long classes = Pattern.compile("\\b(class|interface|enum|record) +\\w+").matcher(code).results().count();
        Check.due("some twelve classes: " + classes, classes <= 12 ? 1 : 0, 1);
        long inner = Pattern.compile("(?m)^ +.*\\bclass \\w+").matcher(code).results().count();
        long ownStatic = Pattern.compile("(?m)^    private [a-z ]*static [a-z ]*class \\w+").matcher(code).results().count();
        Check.due("classes inside are private and static", inner, ownStatic);
        Check.due("signs 1 to 127", source.chars().filter(c -> c < 1 || c > 127).count(), 0);
        methods(code);
        Check.end("LanguageTest");
    }

    private static void methods(String code) {
        Pattern head = Pattern.compile("(?m)^( +)((?:public|private|abstract|static|final| )*)(?:int|long|boolean|void|String|[A-Z]\\w*) (\\w+)\\(([^)]*)\\) \\{$");
        Matcher m = head.matcher(code);
        Map<String, Integer> publics = new TreeMap<>();
        Map<String, Integer> others = new TreeMap<>();
        int found = 0;
        while (m.find()) {
            found++;
            (m.group(2).contains("public") ? publics : others).put(m.group(3), m.start());
            int end = code.indexOf("\n" + m.group(1) + "}", m.end());
            long lines = code.substring(m.start(), end).lines().count();
            Check.due("lines of " + m.group(3) + ": " + lines, lines <= 60 ? 1 : 0, 1);
            Check.due("parameters of " + m.group(3), m.group(4).split(",").length <= 7 ? 1 : 0, 1);
        }
        Check.due("methods are found", found > 80 ? 1 : 0, 1);
        for (String name : others.keySet()) {
            Check.due("no other method is called " + name, publics.containsKey(name) ? 1 : 0, 0);
        }
    }
}
