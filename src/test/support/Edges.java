import java.lang.reflect.InvocationTargetException;
import java.lang.reflect.Method;
import java.nio.file.Files;
import java.nio.file.Path;
import java.util.ArrayList;
import java.util.BitSet;
import java.util.Comparator;
import java.util.LinkedHashMap;
import java.util.List;
import java.util.Map;
import java.util.regex.Matcher;
import java.util.regex.Pattern;

/** Runs the tests of edges, and looks whether each edge that the document names has one. */
final class Edges {
    /** The words by which the document names a case too small, too large, empty, full, wrapped or refused. */
    private static final Pattern MARK = Pattern.compile("\\bBAD\\b|\\bFULL\\b|\\bNONE\\b|-\\d+|\\b\\d+ to (\\d+|n)\\b"
        + "|\\bat most\\b|\\bmore than\\b|\\bbelow\\b|\\babove\\b|\\bheld to\\b|\\bat first\\b|\\bmissing\\b"
        + "|\\b[Nn]othing\\b|\\bnobody\\b|\\bno such\\b|\\b[Nn]one\\b|\\bNo\\b|\\bcut\\b|\\bwrap\\b|\\bOUT\\)"
        + "|\\bout of range\\b|\\bthe end\\b|\\bkept\\b|\\bor more\\b|\\bor farther\\b|\\bno TRACE\\b|\\bno ROWS\\b");

    private final Map<String, String> sections = new LinkedHashMap<>();
    private final Map<String, BitSet> covered = new LinkedHashMap<>();

    private Edges() throws Exception {
        for (String part : Files.readString(Path.of("../shared/DOC.md")).split("(?m)^## ")) {
            int end = part.indexOf('\n');
            String name = part.substring(0, end).replaceAll(":.*", "").trim();
            sections.put(name, part.substring(end).replaceAll("(?m)^`[^`]*`: ", "").replaceAll("\\s+", " "));
            covered.put(name, new BitSet());
        }
    }

    /** Runs each test of a class by its name; every edge of the sections must be under some test's words. */
    static void run(Class<?> tests, List<String> ofSections) throws Exception {
        Edges edges = new Edges();
        List<Method> all = new ArrayList<>();
        for (Method m : tests.getDeclaredMethods()) {
            if (m.isAnnotationPresent(Edge.class)) {
                all.add(m);
            }
        }
        all.sort(Comparator.comparing(Method::getName));
        for (Method m : all) {
            edges.runOne(m);
        }
        Due.within("every edge has a test");
        for (String section : ofSections) {
            edges.lookForUncovered(section);
        }
        System.out.println(all.size() + " tests");
        Due.end();
    }

    private void runOne(Method test) throws Exception {
        Edge edge = test.getAnnotation(Edge.class);
        Due.within(test.getName() + ", " + edge.of() + " \"" + String.join(" .. ", edge.says()) + "\"");
        for (String words : edge.says()) {
            cover(edge.of(), words);
        }
        long before = Due.asked();
        try {
            test.setAccessible(true);
            test.invoke(null);
        } catch (InvocationTargetException e) {
            Due.is("a test that threw " + e.getCause(), 0, 1);
            e.getCause().printStackTrace(System.out);
        }
        Due.is("a test that asks", Due.asked() > before ? 1 : 0, 1);
    }

    private void cover(String section, String words) {
        String text = sections.getOrDefault(section, "");
        int at = text.indexOf(words);
        Due.is("the document's words: " + words, at >= 0 ? 1 : 0, 1);
        if (at >= 0) {
            covered.get(section).set(at, at + words.length());
        }
    }

    private void lookForUncovered(String section) {
        String text = sections.getOrDefault(section, "");
        Due.is("the section " + section, text.isEmpty() ? 0 : 1, 1);
        Matcher mark = MARK.matcher(text);
        while (mark.find()) {
            boolean isCovered = covered.get(section).get(mark.start(), mark.end()).cardinality() == mark.end() - mark.start();
            String around = text.substring(Math.max(0, mark.start() - 40), Math.min(text.length(), mark.end() + 40));
            Due.is(section + ", no test for \"" + mark.group() + "\" in \"" + around + "\"", isCovered ? 1 : 0, 1);
        }
    }
}
