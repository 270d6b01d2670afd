import java.io.IOException;
import java.lang.reflect.Method;
import java.lang.reflect.Modifier;
import java.nio.file.Files;
import java.nio.file.Path;
import java.util.ArrayList;
import java.util.List;
import java.util.Set;
import java.util.TreeSet;
import java.util.regex.Matcher;
import java.util.regex.Pattern;

/** Rules of LANGUAGE.md that can be seen from the source or from the compiled class. */
public final class RulesTest {
    private static final String[] BANNED = {
        "\\bthrow\\b", "\\bthrows\\b", "\\btry\\b", "\\bcatch\\b", "\\bfinally\\b", "\\bsynchronized\\b", "\\bassert\\b",
        "\\bimport (?!java\\.util\\.(ArrayList|List|Arrays|Iterator);)", "\\bpackage\\b",
        "::", "(?m)^(?!\\s*(case|default)\\b).*->", "\\w+Exact\\b", "\\bSystem\\.(?!arraycopy\\b)", "\\bThread\\b",
        "\\bprotected\\b", "\\bvolatile\\b", "\\bnative\\b", "\\bstatic\\s*\\{"};

    public static void main(String[] args) throws IOException {
        String source = withoutRemarks(Files.readString(Path.of("src/main/java/WeWereIn.java")));
        for (String banned : BANNED) {
            Matcher m = Pattern.compile(banned).matcher(source);
            Check.due("'" + banned + "' stands in the source: it", m.find() ? m.group() : null, null);
        }
        Check.due("all signs are 10, 32 to 126", source.chars().allMatch(c -> c == 10 || c >= 32 && c < 127), true);
        methodsAreShort(source);
        classesAreSmall();
        Check.end();
    }

    private static String withoutRemarks(String source) {
        return source.replaceAll("(?s)/\\*.*?\\*/", "").replaceAll("//[^\n]*", "");
    }

    private static void methodsAreShort(String source) {
        int begun = -1;
        String[] lines = source.split("\n");
        for (int i = 0; i < lines.length; i++) {
            if (lines[i].matches(" {4}( {4})?(public|private) .*\\) \\{")) {
                begun = i;
            } else if (begun >= 0 && lines[i].matches(" {4}( {4})?}") && lines[i].indexOf('}') == lines[begun].indexOf('p')) {
                Check.due("some sixty lines:" + lines[begun], i - begun <= 66, true);
                begun = -1;
            }
        }
    }

    private static void classesAreSmall() {
        List<Class<?>> all = new ArrayList<>();
        all.add(WeWereIn.class);
        all.addAll(List.of(WeWereIn.class.getDeclaredClasses()));
        Check.due("some twelve classes", all.size() <= 14, true);
        Set<String> face = new TreeSet<>();
        for (Method m : WeWereIn.class.getDeclaredMethods()) {
            if (Modifier.isPublic(m.getModifiers())) {
                face.add(m.getName());
            }
        }
        for (Class<?> c : all) {
            long fields = List.of(c.getDeclaredFields()).stream().filter(f -> !Modifier.isStatic(f.getModifiers())).count();
            Check.due(c + " has some twenty fields", fields <= 22, true);
            for (Method m : c.getDeclaredMethods()) {
                Check.due(m + " takes seven at most", m.getParameterCount() <= 7, true);
                boolean ownName = Modifier.isPublic(m.getModifiers()) || !face.contains(m.getName());
                Check.due(m + " has a name of its own", ownName, true);
            }
        }
    }
}
