import java.lang.reflect.Method;
import java.util.ArrayList;
import java.util.Arrays;
import java.util.HashMap;
import java.util.List;
import java.util.Map;

/** A run of calls on one object, which can be made again on another one, to see whether a call changes anything. */
final class Run {
    static final int LEAST = Integer.MIN_VALUE, MOST = Integer.MAX_VALUE;
    /** What the document lets an object be used for. */
    static final int MOST_CALLS = 512;
    private static final Map<String, Method> FACE = new HashMap<>();

    static {
        for (Method m : MannersGaol.class.getMethods()) {
            if (m.getDeclaringClass() == MannersGaol.class) {
                FACE.put(m.getName(), m);
            }
        }
    }

    private record Call(String name, long[] args) {
        @Override
        public String toString() {
            String numbers = Arrays.toString(args);
            return name + "(" + numbers.substring(1, numbers.length() - 1) + ")";
        }
    }

    private final List<Call> calls = new ArrayList<>();
    private final MannersGaol x = new MannersGaol();
    private int asked = 0;

    /** One call of the face by its name. */
    static long ask(MannersGaol x, String name, long... args) {
        Method call = FACE.get(name);
        Object[] boxed = new Object[args.length];
        for (int k = 0; k < args.length; k++) {
            boolean isLong = call.getParameterTypes()[k] == long.class;
            boxed[k] = isLong ? (Object) args[k] : (Object) Math.toIntExact(args[k]);
        }
        try {
            return ((Number) call.invoke(x, boxed)).longValue();
        } catch (ReflectiveOperationException e) {
            throw new IllegalStateException(new Call(name, args).toString(), e);
        }
    }

    private long askHere(String name, long... args) {
        asked++;
        if (asked > MOST_CALLS) {
            throw new IllegalStateException("a test of more than 512 calls");
        }
        return ask(x, name, args);
    }

    /** A call that changes something, or is of no interest. */
    Run does(String name, long... args) {
        askHere(name, args);
        calls.add(new Call(name, args));
        return this;
    }

    /** A call with the answer that is due. */
    Run due(long want, String name, long... args) {
        Due.is(new Call(name, args).toString(), askHere(name, args), want);
        calls.add(new Call(name, args));
        return this;
    }

    /** A call with the answer that is due, that changes nothing: another object without it is seen just the same. */
    Run still(long want, String name, long... args) {
        Call call = new Call(name, args);
        Due.is(call.toString(), askHere(name, args), want);
        MannersGaol with = again();
        ask(with, name, args);
        dueSame("behind " + call, with, again());
        return this;
    }

    /** A call that changes nothing, whatever it answers. */
    Run still(String name, long... args) {
        return still(ask(again(), name, args), name, args);
    }

    /** A call that changes nothing if it is refused. */
    Run stillIfBelow0(String name, long... args) {
        MannersGaol with = again();
        if (ask(with, name, args) < 0) {
            dueSame("behind " + new Call(name, args), with, again());
        }
        return this;
    }

    /** A call with its answer. */
    long answer(String name, long... args) {
        calls.add(new Call(name, args));
        return askHere(name, args);
    }

    /** still(), for each of the numbers at a place just outside what is taken there, and far outside. */
    Run outside(long want, int place, long first, long last, String name, long... args) {
        for (long v : new long[] {first - 1, last + 1, LEAST, MOST}) {
            long[] there = args.clone();
            there[place] = v;
            still(want, name, there);
        }
        return this;
    }

    /** Bytes for THE TAPE. */
    Run feed(String text) {
        for (int i = 0; i < text.length(); i += 8) {
            int n = Math.min(8, text.length() - i);
            does("feed", Due.eight(text, i, n), n);
        }
        return this;
    }

    /** A text that is taken. */
    Run text(String text, int inmates) {
        return feed(text).due(inmates, "gaol");
    }

    /** A text with a FAULT at a place: all but THE TAPE is as if it had not come. */
    Run fault(int place, String text) {
        MannersGaol with = again();
        Due.feed(with, text);
        Due.is("gaol() of \"" + text + "\"", with.gaol(), -100 - place);
        Due.is("bytes behind \"" + text + "\"", with.many(5), 0);
        dueSame("behind \"" + text + "\"", with, again());
        return this;
    }

    private MannersGaol again() {
        MannersGaol other = new MannersGaol();
        for (Call call : calls) {
            ask(other, call.name, call.args);
        }
        return other;
    }

    private static void dueSame(String behind, MannersGaol one, MannersGaol other) {
        List<String> seen = Sight.of(one);
        List<String> due = Sight.of(other);
        for (int k = 0; k < Math.max(seen.size(), due.size()); k++) {
            String a = k < seen.size() ? seen.get(k) : "nothing";
            String b = k < due.size() ? due.get(k) : "nothing";
            if (!a.equals(b)) {
                Due.is(behind + " is " + a + ", without it " + b + ": same", 0, 1);
                return;
            }
        }
        Due.is(behind + ": same", 1, 1);
    }

    /** Something of all that an object can have, and INMATES of all KINDS (as many as told, in ROOMS by their numbers). */
    static Run busy(int inmates) {
        Run x = new Run();
        x.does("inmate", 2, 33, 4).does("inmate", 4, 44, 4).does("await", 0, 1);
        x.does("set", 0, 7).does("seed", 42).does("keep");
        x.text("strict 3;ease 4;due 1;sneeze 50;rite 1 is 21;rite 6 is 12;", 0);
        x.does("occasions", 3).does("seed", 99);
        for (int k = 0; k < inmates; k++) {
            x.does("inmate", k % 6, 10 + k, k);
        }
        if (inmates > 2) {
            x.does("await", 0, 1).does("await", 2, 1).does("bring", 2, 1);
        }
        for (int sort = 0; sort < 3; sort++) {
            x.does("sheet", sort, sort, 3).does("put", sort, 0, 5).does("put", sort, 1, -3).does("put", sort, 2, 100);
        }
        x.does("shelf", 1, 1, 0);
        if (inmates > 0) {
            x.does("prove", 0, 2).does("alterRow", 0, 1, 77);
            x.does("shelf", 0, 0, 0).does("shelf", 3, 0, inmates - 1).does("act", 0, 3, 5);
        }
        return x;
    }

    /** busy(), with bytes on THE TAPE too. */
    static Run busyFed(int inmates) {
        return busy(inmates).feed("nun in 3; ");
    }
}
