import java.lang.reflect.Method;
import java.lang.reflect.Modifier;
import java.util.ArrayList;
import java.util.Comparator;
import java.util.List;
import java.util.Random;

/** Runs of drawn calls (the same each time): what the class answers, beside what GaolModel does. */
public final class ModelTest {
    private static final int RUNS = 600, CALLS = 512;
    private static final int[] WILD = {Integer.MIN_VALUE, Integer.MIN_VALUE + 1, -1000, -40, -2, -1, 8, 9, 10, 40, 41,
        60, 61, 99, 100, 255, 256, 65536, Integer.MAX_VALUE - 7, Integer.MAX_VALUE};
    private static final String[] WORDS = {"inmate", "burglar", "duellist", "forger", "nun", "child", "in", "grace",
        "rite", "is", "wait", "for", "strict", "ease", "due", "sneeze", ";", ";", "0", "1", "7", "8", "9", "10", "99",
        "100", "007", "0000", "x", "inn", ",", "\u00ff", "\u0000", "A", " ", "  "};

    public static void main(String[] args) throws Exception {
        List<Method> calls = new ArrayList<>();
        for (Method m : MannersGaol.class.getDeclaredMethods()) {
            if (Modifier.isPublic(m.getModifiers())) {
                calls.add(m);
            }
        }
        calls.sort(Comparator.comparing(Method::getName));
        Due.is("how many methods", calls.size(), 47);
        for (int seed = 1; seed <= RUNS; seed++) {
            new ModelTest(seed).run(calls);
        }
        Due.end();
    }

    private final int seed;
    private final Random draws;
    private final MannersGaol gaol = new MannersGaol();
    private final GaolModel model = new GaolModel();
    private int asked = 0;
    private boolean wrong = false;

    private ModelTest(int seed) {
        this.seed = seed;
        this.draws = new Random(seed);
    }

    private void run(List<Method> calls) throws Exception {
        Method feed = MannersGaol.class.getMethod("feed", long.class, int.class);
        Method read = MannersGaol.class.getMethod("gaol");
        int people = draws.nextInt(10);
        for (int k = 0; k < people; k++) {
            ask(MannersGaol.class.getMethod("inmate", int.class, int.class, int.class),
                draws.nextInt(6), draws.nextInt(60), draws.nextInt(8));
        }
        while (asked < CALLS && !wrong) {
            if (draws.nextInt(80) == 0) {
                String text = draws.nextBoolean() ? goodText() : spoilt(goodText());
                for (int i = 0; i < text.length(); i += 8) {
                    int n = Math.min(8, text.length() - i);
                    ask(feed, Due.eight(text, i, n) | (n < 8 ? 0x55L << 8 * n : 0), n);
                }
                ask(read);
            } else {
                Method call = calls.get(draws.nextInt(calls.size()));
                boolean rare = call.equals(feed) || call.equals(read) || call.getName().startsWith("occasion");
                if (!rare || draws.nextInt(4) == 0) {
                    ask(call, drawn(call));
                }
            }
        }
    }

    private void ask(Method call, Object... args) throws Exception {
        if (wrong) {
            return;
        }
        asked++;
        long want = ((Number) GaolModel.class.getMethod(call.getName(), call.getParameterTypes())
            .invoke(model, args)).longValue();
        long got = ((Number) call.invoke(gaol, args)).longValue();
        wrong = got != want;
        Due.is("run " + seed + ", call " + asked + ": " + call.getName() + java.util.Arrays.toString(args), got, want);
    }

    private Object[] drawn(Method call) {
        Class<?>[] types = call.getParameterTypes();
        Object[] args = new Object[types.length];
        for (int k = 0; k < args.length; k++) {
            args[k] = types[k] == long.class ? (Object) draws.nextLong() : (Object) number(call.getName(), k);
        }
        return args;
    }

    private int number(String call, int k) {
        if (draws.nextInt(25) == 0) {
            return WILD[draws.nextInt(WILD.length)];
        }
        String place = call + k;
        switch (place) {
            case "seed0": case "act2":
                return draws.nextInt();
            case "inmate1": case "grace1": case "rite1":
                return draws.nextInt(100) < 70 ? draws.nextInt(40) : draws.nextInt(100);
            case "put2":
                return draws.nextInt(3) == 0 ? draws.nextInt() : draws.nextInt(140) - 20;
            case "occasions0":
                return 1 + draws.nextInt(draws.nextInt(6) == 0 ? 60 : 3);
            case "where1": case "rudeFor1": case "graceFor1":
                return draws.nextInt(41);
            case "luck0": case "hope0":
                return draws.nextInt(31);
            case "sheet2":
                return draws.nextInt(4) == 0 ? draws.nextInt(43) - 1 : draws.nextInt(9);
            case "sheet1":
                return draws.nextInt(3) == 0 ? draws.nextInt(6) - 1 : 0;
            case "taken1":
                return draws.nextInt(15);
            case "set1":
                return draws.nextInt(10);
            case "prove1": case "row0": case "alterRow0":
                return draws.nextInt(11);
            case "bring1": case "passes1":
                return draws.nextInt(9);
            default:
                return draws.nextInt(draws.nextInt(3) == 0 ? 9 : 5);
        }
    }

    private String goodText() {
        StringBuilder text = new StringBuilder();
        int there = 0;
        int most = 20 + draws.nextInt(180);
        while (true) {
            String one;
            int sort = draws.nextInt(10);
            if (sort < 5 && there < 8) {
                one = WORDS[draws.nextInt(6)] + " in " + draws.nextInt(8)
                    + (draws.nextBoolean() ? " grace " + draws.nextInt(60) : "") + ";";
                there++;
            } else if (sort < 7 && there > 1) {
                int a = draws.nextInt(there);
                one = "wait " + a + " for " + (a + 1 + draws.nextInt(there - 1)) % there + ";";
            } else if (sort < 9) {
                one = "rite " + draws.nextInt(8) + " is " + draws.nextInt(30) + ";";
            } else {
                one = WORDS[12 + draws.nextInt(4)] + (draws.nextBoolean() ? " " : "") + draws.nextInt(10) + " ;";
            }
            if (text.length() + one.length() > most) {
                return text.toString();
            }
            text.append(one);
        }
    }

    /** One or two places of a text cut, or another word put there. */
    private String spoilt(String text) {
        String spoilt = text;
        for (int k = draws.nextInt(2); k >= 0; k--) {
            int from = draws.nextInt(spoilt.length() + 1);
            int to = Math.min(spoilt.length(), from + draws.nextInt(3));
            String word = draws.nextInt(3) == 0 ? "" : WORDS[draws.nextInt(WORDS.length)];
            spoilt = spoilt.substring(0, from) + word + spoilt.substring(to);
        }
        return draws.nextInt(4) == 0 ? spoilt.substring(0, draws.nextInt(spoilt.length() + 1)) : spoilt;
    }
}
