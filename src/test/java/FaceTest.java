import java.lang.reflect.Constructor;
import java.lang.reflect.Field;
import java.lang.reflect.Method;
import java.lang.reflect.Modifier;
import java.nio.file.Files;
import java.nio.file.Path;
import java.util.ArrayList;
import java.util.Arrays;
import java.util.List;
import java.util.Map;
import java.util.Set;
import java.util.TreeMap;
import java.util.TreeSet;
import java.util.regex.Matcher;
import java.util.regex.Pattern;

/** The public face, and the rules of LANGUAGE.md that can be seen in the class and in its source. */
public final class FaceTest {
    private static final String FACE = "feed(long,int) gaol() set(int,int) lawOf(int) inmate(int,int,int) of(int,int) "
        + "does(int,int) mind(int,int) grace(int,int) bring(int,int) await(int,int) excuse(int) rite(int,int) "
        + "room(int,int) occasions(int) seed(int) occasion() luck(int) state(int) where(int,int) leaves(int) empty() "
        + "passes(int,int) knot(int) rudeFor(int,int) graceFor(int,int) kindFor(int) riteFor(int) hostFor(int) "
        + "fits(int,int,int) odds(int,int,int) hope(int,int) prove(int,int) row(int,int) alterRow(int,int,int) "
        + "judge(int) minds(int,int,int,int) sheet(int,int,int) put(int,int,int) item(int,int,int) shelf(int,int,int) "
        + "taken(int,int) act(int,int,int) trace(int) many(int) keep() again()";

    public static void main(String[] args) throws Exception {
        document();
        face();
        classes();
        source();
        methods();
        Due.end();
    }

    private static void holds(String what, boolean holds) {
        Due.is(what, holds ? 1 : 0, 1);
    }

    /** FACE is what DOC.md writes. */
    private static void document() throws Exception {
        String doc = Files.readString(Path.of("../shared/DOC.md"));
        Matcher method = Pattern.compile("(?m)^    public (?:int|long) (\\w+)\\(([^)]*)\\);$").matcher(doc);
        List<String> written = new ArrayList<>();
        while (method.find()) {
            written.add(method.group(1) + "(" + method.group(2).replaceAll(" \\w+(, |$)", "$1").replace(", ", ",") + ")");
        }
        holds("the face of the document: " + written, String.join(" ", written).equals(FACE));
    }

    private static String signature(Method m) {
        List<String> types = new ArrayList<>();
        for (Class<?> type : m.getParameterTypes()) {
            types.add(type.getName());
        }
        return m.getName() + "(" + String.join(",", types) + ")";
    }

    private static void face() {
        Class<?> c = MannersGaol.class;
        holds("public and final", Modifier.isPublic(c.getModifiers()) && Modifier.isFinal(c.getModifiers()));
        Set<String> seen = new TreeSet<>();
        for (Method m : c.getDeclaredMethods()) {
            if (Modifier.isPublic(m.getModifiers())) {
                seen.add(signature(m));
                boolean isLong = m.getName().equals("odds") || m.getName().equals("hope");
                holds(m + " answers", m.getReturnType() == (isLong ? long.class : int.class));
                holds(m + " is no static one", !Modifier.isStatic(m.getModifiers()));
            } else {
                holds(m + " is private", Modifier.isPrivate(m.getModifiers()));
            }
        }
        holds("the methods " + seen, seen.equals(new TreeSet<>(Arrays.asList(FACE.split(" ")))));
        Constructor<?>[] constructors = c.getDeclaredConstructors();
        holds("one constructor", constructors.length == 1 && Modifier.isPublic(constructors[0].getModifiers())
            && constructors[0].getParameterCount() == 0);
        Set<String> constants = new TreeSet<>();
        for (Field f : c.getDeclaredFields()) {
            if (Modifier.isPublic(f.getModifiers())) {
                constants.add(f.getName());
            } else {
                holds(f + " is private", Modifier.isPrivate(f.getModifiers()));
            }
        }
        holds("the constants", constants.equals(Set.of("BAD", "FULL", "NONE")));
    }

    private static void classes() {
        Set<String> names = new TreeSet<>();
        for (String one : FACE.split(" ")) {
            names.add(one.substring(0, one.indexOf('(')));
        }
        List<Class<?>> all = new ArrayList<>(List.of(MannersGaol.class.getDeclaredClasses()));
        holds("at most twelve classes", all.size() < 12);
        for (Class<?> c : all) {
            holds(c + " is static", Modifier.isStatic(c.getModifiers()));
            for (Method m : c.getDeclaredMethods()) {
                holds(m + " has a name of its own", !names.contains(m.getName()));
            }
        }
        all.add(MannersGaol.class);
        for (Class<?> c : all) {
            int fields = 0;
            for (Field f : c.getDeclaredFields()) {
                boolean isStatic = Modifier.isStatic(f.getModifiers());
                holds(f + ": what is static is final", !isStatic || Modifier.isFinal(f.getModifiers()));
                fields += isStatic ? 0 : 1;
            }
            holds(c + " has some twenty fields", fields <= 20);
            for (Method m : c.getDeclaredMethods()) {
                holds(m + " takes at most seven", m.getParameterCount() <= 7);
                holds(m + " bears no public name", !Modifier.isPrivate(m.getModifiers()) || !names.contains(m.getName()));
            }
        }
    }

    private static void source() throws Exception {
        String source = Files.readString(Path.of("src/main/java/MannersGaol.java"));
        String code = source.replaceAll("(?s)/\\*.*?\\*/", "").replaceAll("//[^\n]*", "");
        holds("signs of ASCII", source.chars().allMatch(c -> c < 128));
        for (String word : List.of("throw", "throws", "try", "catch", "finally", "synchronized", "assert", "import",
                "package", "native", "volatile", "transient", "strictfp", "Object", "System\\.out", "\\w*Exact")) {
            holds("no " + word, !Pattern.compile("\\b" + word + "\\b").matcher(code).find());
        }
        holds("no lambda", !code.contains("->") && !code.contains("::"));
        // One room for all calls: objects are made with the object alone, none by a call.
        Matcher made = Pattern.compile("(?m)^.*\\bnew\\b.*$").matcher(code);
        while (made.find()) {
            String line = made.group().trim();
            holds("made with the object: " + line,
                line.matches("(private )?final .*") || line.matches("(sheets|shelves)\\[i\\] = .*"));
        }
        holds("the longest line", code.lines().mapToInt(String::length).max().getAsInt() <= 120);
    }

    /** Rule 11: short methods, and calls at most eight deep; methods of one name are taken for one. */
    private static void methods() throws Exception {
        String code = Files.readString(Path.of("src/main/java/MannersGaol.java"))
            .replaceAll("(?s)/\\*.*?\\*/", "").replaceAll("//[^\n]*", "");
        Map<String, String> bodies = new TreeMap<>();
        Matcher head = Pattern.compile("(?m)^ +(?:(?:public|private|static|final) )*(?:[\\w\\[\\]]+ )?(\\w+)"
            + "\\([^()]*\\) \\{$").matcher(code);
        while (head.find()) {
            if (!Set.of("if", "for", "while", "switch").contains(head.group(1))) {
                String body = code.substring(head.end(), endOf(code, head.end()));
                holds(head.group(1) + " is short", body.lines().count() <= 60);
                bodies.merge(head.group(1), body, String::concat);
            }
        }
        holds("the methods are found", bodies.size() > 100);
        for (String name : bodies.keySet()) {
            List<String> way = longestWay(bodies, name, new ArrayList<>());
            holds("at most eight deep: " + way, way.size() <= 8);
        }
    }

    private static int endOf(String code, int from) {
        int open = 1;
        int at = from;
        while (open > 0) {
            open += code.charAt(at) == '{' ? 1 : code.charAt(at) == '}' ? -1 : 0;
            at++;
        }
        return at;
    }

    /** Of calls that stand open at once, the library's left out, and those of a method that stands open already. */
    private static List<String> longestWay(Map<String, String> bodies, String name, List<String> before) {
        List<String> way = new ArrayList<>(before);
        way.add(name);
        List<String> longest = way;
        Matcher call = Pattern.compile("\\b(\\w+)\\(").matcher(bodies.get(name));
        while (call.find()) {
            if (bodies.containsKey(call.group(1)) && !way.contains(call.group(1))) {
                List<String> on = longestWay(bodies, call.group(1), way);
                longest = on.size() > longest.size() ? on : longest;
            }
        }
        return longest;
    }
}
