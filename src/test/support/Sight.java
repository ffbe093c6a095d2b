import java.util.ArrayList;
import java.util.List;

/** All that calls can see of an object, to the bytes of THE TAPE and what is kept; the object is used up by it. */
final class Sight {
    private final MannersGaol x;
    private final List<String> seen = new ArrayList<>();

    private Sight(MannersGaol x) {
        this.x = x;
    }

    static List<String> of(MannersGaol x) {
        Sight sight = new Sight(x);
        sight.seeWorld("now");
        sight.seeRowsAndTrace();
        sight.seeShelves();
        sight.seeSheets();
        // These change the object, so they come last.
        sight.see("gaol");
        sight.seeWorld("the tape's");
        sight.see("again");
        sight.seeWorld("kept");
        return sight.seen;
    }

    private long see(String name, long... args) {
        long answer = Run.ask(x, name, args);
        seen.add(name + java.util.Arrays.toString(args) + " " + answer);
        return answer;
    }

    private void seeWorld(String which) {
        seen.add(which);
        for (int law = 0; law < 4; law++) {
            see("lawOf", law);
        }
        for (int room = 0; room < 8; room++) {
            see("room", room, 0);
        }
        long inmates = see("many", 0);
        for (int one = 0; one < inmates; one++) {
            for (int what = 0; what < 4; what++) {
                see("of", one, what);
            }
        }
        see("state", 0);
        see("many", 5);
        long z = see("seed", 0);
        Run.ask(x, "seed", z);
    }

    private void seeRowsAndTrace() {
        long rows = see("many", 4);
        for (int i = 0; i < rows; i++) {
            for (int what = 0; what < 3; what++) {
                see("row", i, what);
            }
        }
        long bodies = see("many", 6);
        for (int i = 0; i < bodies; i++) {
            see("trace", i);
        }
    }

    private void seeShelves() {
        for (int shelf = 0; shelf < 4; shelf++) {
            see("taken", shelf, 0);
            for (int sort = 0; sort < 4; sort++) {
                see("taken", shelf, 10 + sort);
            }
        }
    }

    private void seeSheets() {
        for (int sheet = 0; sheet < 4; sheet++) {
            Run.ask(x, "shelf", 0, 1, sheet);
            for (int sort = 0; sort < 4; sort++) {
                long size = see("taken", 0, 10 + sort);
                for (int i = 0; i < size; i++) {
                    see("item", sheet, sort, i);
                }
            }
        }
    }
}
