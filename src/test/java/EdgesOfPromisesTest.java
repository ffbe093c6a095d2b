import java.util.ArrayList;
import java.util.List;

/**
 * A test of its own for each sentence of the promises that names an edge: the last that is taken, the first that is
 * refused, and that nothing has changed by what was refused. By the name: p07 is promise 7; the words that a test is
 * for stand with it. Run.outside asks just below the first, just above the last, and the least and the most of ints.
 */
public final class EdgesOfPromisesTest {
    private static final int BAD = -1, FULL = -2, NONE = -3, LEAST = Run.LEAST, MOST = Run.MOST;
    private static final long BLANKS = 0x2020202020202020L;
    /** Goes in the 60th OCCASION with GRACE 39 in ROOM 7, in the 61st with 38, in the n-th with 99 - n. */
    private static final String SLOW = "ease 1;rite 7 is 98;";

    public static void main(String[] args) throws Exception {
        List<String> promises = new ArrayList<>();
        for (int promise = 1; promise <= 48; promise++) {
            promises.add("Promise " + promise);
        }
        Edges.run(EdgesOfPromisesTest.class, promises);
    }

    private static Run told(String text, int inmates) {
        return new Run().text(text, inmates);
    }

    /** With none, with one, with eight INMATES: those that there are not, at a place of a call, are BAD. */
    private static void nobodyIsBad(int place, String name, long... args) {
        for (int inmates : new int[] {0, 1, 8}) {
            Run.busyFed(inmates).outside(BAD, place, 0, inmates - 1, name, args);
        }
    }

    // ---- 1 ----

    @Edge(of = "Promise 1", says = "No INMATES")
    static void p01_noInmates() {
        Run x = new Run().due(0, "many", 0).still(BAD, "of", 0, 0).due(0, "state", 1).due(8, "state", 4)
            .due(0, "empty");
        x.due(0, "inmate", 0, 0, 0);
    }

    @Edge(of = "Promise 1", says = "nothing is kept.")
    static void p01_nothingIsKept() {
        new Run().still(NONE, "again").due(1, "keep").due(0, "again");
    }

    // ---- 2 ----

    @Edge(of = "Promise 2", says = "n bytes (1 to 8) come to THE TAPE")
    static void p02_nBytes1To8() {
        Run x = new Run().outside(BAD, 1, 1, 8, "feed", BLANKS, 1).due(1, "feed", BLANKS, 1).due(9, "feed", BLANKS, 8);
        x.outside(BAD, 1, 1, 8, "feed", BLANKS, 1).due(9, "many", 5);
    }

    @Edge(of = "Promise 2", says = "the lowest of eight first: how many it has.")
    static void p02_theLowestFirst() {
        // ";" is 59, "e" 101: the bytes above the n lowest count nothing.
        new Run().due(1, "feed", 0x6565656565656520L, 1).due(0, "gaol");
        new Run().due(8, "feed", Due.eight("due 7;  ", 0, 8), 8).due(0, "gaol").due(7, "lawOf", 2);
        new Run().due(7, "feed", Due.eight("due 8; x", 0, 8), 7).due(0, "gaol").due(8, "lawOf", 2);
        // All bytes 255, and the eighth byte with its highest bit.
        new Run().due(8, "feed", -1, 8).due(-100, "gaol");
        new Run().due(8, "feed", 0x8020202020202020L, 8).due(-107, "gaol");
    }

    @Edge(of = "Promise 2", says = "BAD; FULL: more than 200.")
    static void p02_fullMoreThan200() {
        Run x = Run.busy(2).feed(" ".repeat(192));
        x.due(193, "feed", BLANKS, 1).still(FULL, "feed", BLANKS, 8).due(200, "feed", BLANKS, 7);
        for (int n = 1; n <= 8; n++) {
            x.still(FULL, "feed", BLANKS, n);
        }
        x.outside(BAD, 1, 1, 8, "feed", BLANKS, 1).due(200, "many", 5).due(0, "gaol").due(8, "feed", BLANKS, 8);
    }

    // ---- 3 ----

    @Edge(of = "Promise 3", says = "THE TAPE becomes all: how many INMATES")
    static void p03_howManyFrom0To8() {
        Run x = Run.busy(3).due(0, "gaol").due(0, "many", 0);
        for (int inmates = 0; inmates <= 8; inmates++) {
            x.text("nun in 7;".repeat(inmates), inmates);
        }
        x.due(8, "many", 0).due(255, "room", 7, 1);
    }

    @Edge(of = "Promise 3", says = "-100 less its FAULT.")
    static void p03_faultFrom0To200() {
        Run.busy(3).fault(0, ";").fault(1, " ;").fault(199, " ".repeat(199) + ";")
            .fault(200, "nun in 3" + " ".repeat(192));
    }

    @Edge(of = "Promise 3", says = "There are no ROWS then.")
    static void p03_noRowsThen() {
        Run x = Run.busy(3).due(2, "many", 4).fault(0, ";").text("nun in 3;", 1).due(0, "many", 4)
            .still(-9, "row", 0, 0);
        x.still(-9, "alterRow", 0, 0, 1).due(0, "judge", 0).does("prove", 0, 10).due(0, "gaol").due(0, "many", 4);
    }

    // ---- 4, 5 ----

    @Edge(of = "Promise 4", says = "A LAW becomes v: what it was.")
    static void p04_eachLawFrom0ToItsTop() {
        int[] first = {2, 3, 2, 20};
        int[] top = {9, 9, 9, 99};
        Run x = new Run();
        for (int law = 0; law < 4; law++) {
            x.due(first[law], "set", law, top[law]).due(top[law], "set", law, 0).due(0, "set", law, 0)
                .due(0, "lawOf", law);
        }
    }

    @Edge(of = "Promise 4", says = "BAD.")
    static void p04_bad() {
        int[] top = {9, 9, 9, 99};
        for (int law = 0; law < 4; law++) {
            Run.busyFed(2).outside(BAD, 1, 0, top[law], "set", law, 0);
        }
        Run.busyFed(2).outside(BAD, 0, 0, 3, "set", 0, 5).still(BAD, "set", -1, -1).still(BAD, "set", 4, 0);
    }

    @Edge(of = "Promise 5", says = "A LAW. BAD.")
    static void p05_bad() {
        Run.busyFed(2).outside(BAD, 0, 0, 3, "lawOf", 0).due(3, "lawOf", 0).due(50, "lawOf", 3);
    }

    // ---- 6 ----

    @Edge(of = "Promise 6", says = "One more in a ROOM, that WAITS for nobody: its number.")
    static void p06_theFirstAndTheLastOfAll() {
        Run x = new Run().due(0, "inmate", 0, 0, 0).due(1, "inmate", 5, 99, 7);
        x.due(0, "of", 0, 0).due(0, "of", 0, 1).due(0, "of", 0, 2).due(0, "of", 0, 3);
        x.due(5, "of", 1, 0).due(99, "of", 1, 1).due(7, "of", 1, 2).due(0, "of", 1, 3);
    }

    @Edge(of = "Promise 6", says = "BAD;")
    static void p06_bad() {
        for (int inmates : new int[] {0, 7, 8}) {
            Run x = Run.busyFed(inmates);
            x.outside(BAD, 0, 0, 5, "inmate", 0, 0, 0).outside(BAD, 1, 0, 99, "inmate", 0, 0, 0);
            x.outside(BAD, 2, 0, 7, "inmate", 0, 0, 0);
        }
    }

    @Edge(of = "Promise 6", says = "FULL.")
    static void p06_fullAtTheNinth() {
        Run.busyFed(7).due(7, "inmate", 5, 99, 7).still(FULL, "inmate", 5, 99, 7).still(FULL, "inmate", 0, 0, 0)
            .due(8, "many", 0);
    }

    // ---- 7, 8 ----

    @Edge(of = "Promise 7", says = "2 its ROOM (8: OUT)")
    static void p07_itsRoomFrom0To8() {
        Run x = told("nun in 0;nun in 7;", 2).due(0, "of", 0, 2).due(7, "of", 1, 2).does("bring", 1, 8)
            .due(8, "of", 1, 2);
        x.due(5, "of", 1, 1).due(4, "of", 1, 0);
    }

    @Edge(of = "Promise 7", says = "3 for whom it WAITS (0: nobody; else 1 and the number), 4 1 if it is HELD now, else 0.")
    static void p07_forWhomFrom0To8() {
        Run x = told("nun in 0;".repeat(8), 8).due(0, "of", 0, 3).due(0, "of", 0, 4);
        x.does("await", 0, 7).due(8, "of", 0, 3).due(1, "of", 0, 4).does("await", 7, 0).due(1, "of", 7, 3);
        x.does("excuse", 0).due(0, "of", 0, 3).due(0, "of", 0, 4);
    }

    @Edge(of = "Promise 7", says = "BAD.")
    static void p07_bad() {
        Run.busyFed(1).outside(BAD, 1, 0, 4, "of", 0, 0).due(0, "of", 0, 0).due(0, "of", 0, 4);
        nobodyIsBad(0, "of", 0, 0);
        nobodyIsBad(0, "of", 0, 4);
    }

    @Edge(of = "Promise 8", says = "BAD;")
    static void p08_bad() {
        Run.busyFed(1).outside(BAD, 1, 0, 2, "does", 0, 0).due(1010, "does", 0, 0).due(1004, "does", 0, 2);
        nobodyIsBad(0, "does", 0, 0);
        nobodyIsBad(0, "does", 0, 2);
    }

    @Edge(of = "Promise 8", says = "NONE (what 0): it is OUT.")
    static void p08_noneIfOut() {
        Run x = Run.busyFed(1).does("bring", 0, 7).due(1010, "does", 0, 0).does("bring", 0, 8)
            .still(NONE, "does", 0, 0);
        x.due(1001, "does", 0, 1).due(1004, "does", 0, 2).still(BAD, "does", 0, 3).still(BAD, "does", 0, -1);
        for (int kind = 0; kind < 6; kind++) {
            x.does("mind", 0, kind).still(NONE, "does", 0, 0);
        }
    }

    // ---- 9 to 13 ----

    @Edge(of = "Promise 9", says = "One becomes one of another KIND: the KIND that it was. BAD.")
    static void p09_bad() {
        Run.busyFed(1).outside(BAD, 1, 0, 5, "mind", 0, 0).due(0, "mind", 0, 5).due(5, "mind", 0, 5)
            .due(5, "mind", 0, 0).due(0, "of", 0, 0);
        nobodyIsBad(0, "mind", 0, 5);
    }

    @Edge(of = "Promise 10", says = "GRACE becomes v: what it was. BAD.")
    static void p10_bad() {
        Run.busyFed(1).outside(BAD, 1, 0, 99, "grace", 0, 0).due(10, "grace", 0, 0).due(0, "grace", 0, 99)
            .due(99, "of", 0, 1);
        nobodyIsBad(0, "grace", 0, 50);
    }

    @Edge(of = "Promise 11", says = "It is in a ROOM (0 to 7) from now on, or OUT (8): its ROOM till then. BAD.")
    static void p11_bad() {
        Run x = Run.busyFed(1).outside(BAD, 1, 0, 8, "bring", 0, 0);
        x.due(0, "bring", 0, 7).due(7, "bring", 0, 8).due(1, "state", 1).due(8, "bring", 0, 0).due(0, "state", 1)
            .due(0, "of", 0, 2);
        nobodyIsBad(0, "bring", 0, 5);
    }

    @Edge(of = "Promise 12", says = "One WAITS for another one from now on: 1 if it did for that one, else 0.")
    static void p12_theFirstAndTheLastOne() {
        Run x = told("nun in 0;".repeat(8), 8).due(0, "await", 0, 7).due(1, "await", 0, 7).due(0, "await", 7, 0);
        x.due(0, "await", 0, 1).due(0, "await", 0, 7).due(8, "of", 0, 3).due(1, "of", 7, 3);
    }

    @Edge(of = "Promise 12", says = "BAD: also one and the same.")
    static void p12_bad() {
        for (int one = 0; one < 8; one++) {
            Run.busyFed(8).still(BAD, "await", one, one);
        }
        nobodyIsBad(0, "await", 0, 0);
        nobodyIsBad(1, "await", 0, 0);
        // With one there is no other; with two there is one.
        Run.busyFed(1).still(BAD, "await", 0, 0).still(BAD, "await", 0, 1).still(BAD, "await", 1, 0);
        Run.busyFed(2).due(0, "await", 0, 1).due(0, "await", 1, 0).still(BAD, "await", 1, 2).still(BAD, "await", 8, 8);
    }

    @Edge(of = "Promise 13", says = "One WAITS for nobody: 1 if it did for one, else 0. BAD.")
    static void p13_bad() {
        Run.busyFed(8).due(1, "excuse", 0).due(0, "excuse", 0).due(0, "excuse", 7).due(1, "many", 2);
        nobodyIsBad(0, "excuse", 0);
    }

    // ---- 14, 15 ----

    @Edge(of = "Promise 14", says = "RITE of a ROOM becomes v (0 to 99): what it was. BAD.")
    static void p14_bad() {
        Run x = Run.busyFed(1).outside(BAD, 0, 0, 7, "rite", 0, 5).outside(BAD, 1, 0, 99, "rite", 7, 5);
        x.due(10, "rite", 0, 99).due(99, "rite", 0, 0).due(10, "rite", 7, 0).due(0, "rite", 7, 99)
            .due(99, "room", 7, 0);
    }

    @Edge(of = "Promise 15", says = "Of a ROOM (0 to 7): what = 0 RITE, 1 those in it, as a set. BAD.")
    static void p15_bad() {
        Run x = Run.busyFed(8).outside(BAD, 0, 0, 7, "room", 0, 0).outside(BAD, 0, 0, 7, "room", 0, 1);
        x.outside(BAD, 1, 0, 1, "room", 0, 0).due(1, "room", 0, 1).due(128, "room", 7, 1).due(0, "room", 2, 1);
        // Those OUT are in no ROOM, not in one 8 either.
        x.does("bring", 7, 8).due(0, "room", 7, 1).still(BAD, "room", 8, 1);
    }

    // ---- 16 to 20 ----

    @Edge(of = "Promise 16", says = "n OCCASIONS (1 to 60): how many are OUT then. BAD.")
    static void p16_occasions1To60() {
        Run.busyFed(8).outside(BAD, 0, 1, 60, "occasions", 1);
        told("inmate in 7 grace 39;" + SLOW, 1).due(1, "occasions", 60).due(60, "state", 0);
        told("inmate in 7 grace 39;" + SLOW, 1).due(0, "occasions", 59).due(1, "occasions", 1).due(60, "state", 0);
        told("inmate in 7 grace 98;" + SLOW, 1).due(1, "occasions", 1).due(1, "state", 0);
        told("nun in 7 grace 99;".repeat(8), 8).due(8, "occasions", 1);
        new Run().due(0, "occasions", 1).due(0, "occasions", 60).due(61, "state", 0);
    }

    @Edge(of = "Promise 17", says = "z becomes v: what it was.")
    static void p17_everyInt() {
        // What it was may be below 0: that is no refusal.
        Run x = new Run().due(1, "seed", LEAST).due(LEAST, "seed", MOST).due(MOST, "seed", -1).due(-1, "seed", -3)
            .due(-3, "seed", 0);
        x.due(0, "seed", 1);
    }

    @Edge(of = "Promise 18", says = "AN OCCASION BY DRAWS: how many are OUT then.")
    static void p18_from0To8() {
        new Run().due(0, "occasion");
        told("nun in 7 grace 99;".repeat(8), 8).due(8, "occasion").due(8, "occasion").due(255, "state", 1)
            .due(2, "state", 0);
        told("inmate in 7 grace 9;sneeze 0;", 1).due(0, "occasion").due(1, "occasion");
    }

    @Edge(of = "Promise 19", says = "LUCK (n 1 to 30). BAD.")
    static void p19_luck1To30() {
        Run.busyFed(8).outside(BAD, 0, 1, 30, "luck", 1);
        // By z from 1 on every second draw counts: how many of the first n of them leave less than 50 by a hundred.
        Run x = told("inmate in 7 grace 0;sneeze 50;", 1).does("seed", 1);
        long z = 1;
        int lucky = 0;
        for (int n = 1; n <= 30; n++) {
            z = z * 1103515245 + 12345 & 0xffffffffL;
            z = z * 1103515245 + 12345 & 0xffffffffL;
            lucky += z / 65536 % 100 < 50 ? 1 : 0;
            x.due(lucky, "luck", n);
        }
        // Nobody is there; SNEEZE 0; from z 0 the second draw leaves 36.
        new Run().due(0, "luck", 1).due(0, "luck", 30);
        x.does("set", 3, 0).due(0, "luck", 30).does("seed", 0).does("set", 3, 37).due(1, "luck", 1).does("set", 3, 36)
            .due(0, "luck", 1);
    }

    @Edge(of = "Promise 20", says = "5 RITES of all ROOMS together. BAD.")
    static void p20_bad() {
        Run x = Run.busyFed(3).outside(BAD, 0, 0, 5, "state", 0).due(3, "state", 0).due(93, "state", 5);
        for (int room = 0; room < 8; room++) {
            x.does("rite", room, 0);
        }
        x.due(0, "state", 5);
        for (int room = 0; room < 8; room++) {
            x.does("rite", room, 99);
        }
        x.due(792, "state", 5);
    }

    @Edge(of = "Promise 20", says = "1 those OUT, as a set, 2 those HELD now, as a set, 3 GRACE of all together, 4 CROWD")
    static void p20_ofNobodyAndOfEight() {
        new Run().due(0, "state", 1).due(0, "state", 2).due(0, "state", 3).due(8, "state", 4);
        Run x = told("nun in 7 grace 99;".repeat(8), 8).due(792, "state", 3).due(7, "state", 4).due(0, "state", 2);
        for (int i = 0; i < 8; i++) {
            x.does("await", i, (i + 1) % 8);
        }
        x.due(255, "state", 2).due(0, "state", 1);
        for (int i = 0; i < 8; i++) {
            x.does("bring", i, 8);
        }
        x.due(0, "state", 2).due(255, "state", 1).due(792, "state", 3).due(8, "state", 4);
    }

    // ---- 21 to 25 ----

    @Edge(of = "Promise 21", says = "WHERE of one by n (0 to 60). BAD.")
    static void p21_where0To60() {
        Run.busyFed(1).outside(BAD, 1, 0, 60, "where", 0, 0);
        nobodyIsBad(0, "where", 0, 0);
        told("inmate in 7 grace 39;" + SLOW, 1).still(7, "where", 0, 0).still(7, "where", 0, 59)
            .still(8, "where", 0, 60);
    }

    @Edge(of = "Promise 22", says = "LEAVES. BAD;")
    static void p22_bad() {
        nobodyIsBad(0, "leaves", 0);
        told("inmate in 7 grace 98;".repeat(8), 8).due(1, "leaves", 0).due(1, "leaves", 7).still(BAD, "leaves", 8);
    }

    @Edge(of = "Promise 22", says = "NONE: not by then.")
    static void p22_noneNotBy60() {
        Run x = told("inmate in 7 grace 39;inmate in 7 grace 38;" + SLOW, 2).still(60, "leaves", 0)
            .still(NONE, "leaves", 1);
        x.does("occasions", 1).still(59, "leaves", 0).still(60, "leaves", 1);
        x.does("occasions", 59).still(0, "leaves", 0).still(1, "leaves", 1);
    }

    @Edge(of = "Promise 23", says = "EMPTY. NONE: not by then.")
    static void p23_noneNotBy60() {
        new Run().still(0, "empty");
        Run x = told("inmate in 7 grace 39;inmate in 7 grace 39;" + SLOW, 2).still(60, "empty");
        x.does("grace", 1, 38).still(NONE, "empty").does("occasions", 1).still(60, "empty");
        x.does("occasions", 60).still(0, "empty");
    }

    @Edge(of = "Promise 24", says = "PASSES of one and a ROOM (0 to 8). BAD;")
    static void p24_bad() {
        Run.busyFed(1).outside(BAD, 1, 0, 8, "passes", 0, 0).still(0, "passes", 0, 0);
        nobodyIsBad(0, "passes", 0, 0);
        nobodyIsBad(0, "passes", 0, 8);
        told("inmate in 7 grace 98;", 1).still(0, "passes", 0, 7).still(1, "passes", 0, 8);
    }

    @Edge(of = "Promise 24", says = "NONE: not by then.")
    static void p24_noneNotBy60() {
        Run x = told("inmate in 0 grace 39;ease 1;due 0;rite 0 is 98;rite 7 is 98;", 1);
        // GRACE 98 behind 59, in 1 behind 60; OUT not by then.
        x.still(0, "passes", 0, 0).still(60, "passes", 0, 1).still(NONE, "passes", 0, 2).still(NONE, "passes", 0, 8);
        x.does("grace", 0, 38).still(NONE, "passes", 0, 1).does("bring", 0, 8).still(0, "passes", 0, 0)
            .still(0, "passes", 0, 8);
    }

    @Edge(of = "Promise 25", says = "KNOT of one, as a set. BAD.")
    static void p25_bad() {
        nobodyIsBad(0, "knot", 0);
        Run x = told("nun in 0;".repeat(8), 8).still(0, "knot", 0).does("await", 7, 0).still(0, "knot", 7);
        x.does("await", 0, 7).still(129, "knot", 7).still(129, "knot", 0).does("await", 1, 0).still(129, "knot", 1);
    }

    // ---- 26 to 31 ----

    @Edge(of = "Promise 26", says = "RUDE FOR one, n (0 to 40). BAD;")
    static void p26_bad() {
        Run.busyFed(1).outside(BAD, 1, 0, 40, "rudeFor", 0, 0);
        nobodyIsBad(0, "rudeFor", 0, 0);
        nobodyIsBad(0, "rudeFor", 0, 40);
        // Held by one another; GRACE 98 behind 39, OUT behind 40.
        Run x = told("inmate in 7 grace 59;inmate in 7 grace 0;wait 0 for 1;wait 1 for 0;" + SLOW, 2);
        x.still(1, "rudeFor", 0, 40).still(NONE, "rudeFor", 0, 39).does("grace", 0, 58).still(NONE, "rudeFor", 0, 40);
        x.does("bring", 0, 8).still(0, "rudeFor", 0, 0).still(0, "rudeFor", 0, 40);
    }

    @Edge(of = "Promise 26", says = "NONE: by no set.")
    static void p26_noneByNoSet() {
        // Not by n 0, if it isn't OUT; not at all, if it NEEDS more than it ever has.
        Run x = told("burglar in 7 grace 99;nun in 7;wait 0 for 1;rite 7 is 99;strict 1;", 2);
        x.still(NONE, "rudeFor", 0, 0).still(NONE, "rudeFor", 0, 40).does("set", 0, 0).still(1, "rudeFor", 0, 1)
            .still(NONE, "rudeFor", 0, 0);
    }

    @Edge(of = "Promise 27", says = "GRACE FOR one, n (0 to 40). BAD;")
    static void p27_bad() {
        Run.busyFed(1).outside(BAD, 1, 0, 40, "graceFor", 0, 0);
        nobodyIsBad(0, "graceFor", 0, 0);
        nobodyIsBad(0, "graceFor", 0, 40);
        Run x = told("inmate in 7 grace 0;" + SLOW, 1).still(59, "graceFor", 0, 40).still(60, "graceFor", 0, 39)
            .still(98, "graceFor", 0, 1);
        x.does("rite", 7, 39).still(0, "graceFor", 0, 40).still(1, "graceFor", 0, 39).does("bring", 0, 8)
            .still(0, "graceFor", 0, 0);
    }

    @Edge(of = "Promise 27", says = "NONE: with none.")
    static void p27_noneWithNone() {
        Run x = told("burglar in 7 grace 0;rite 7 is 99;strict 0;", 1).still(99, "graceFor", 0, 1)
            .still(NONE, "graceFor", 0, 0);
        x.does("set", 0, 1).still(NONE, "graceFor", 0, 1).still(NONE, "graceFor", 0, 40);
    }

    @Edge(of = "Promise 28", says = "KIND FOR one. BAD.")
    static void p28_bad() {
        nobodyIsBad(0, "kindFor", 0);
        // The first KIND and the last: with enough for all of them; with none, in an odd OCCASION.
        Run x = told("nun in 7 grace 99;".repeat(8), 8).still(0, "kindFor", 0).still(0, "kindFor", 7);
        x.does("bring", 0, 0).does("set", 1, 0).does("occasions", 1).does("bring", 0, 7).does("grace", 0, 0)
            .still(5, "kindFor", 0);
    }

    @Edge(of = "Promise 29", says = "RITE FOR one. BAD;")
    static void p29_bad() {
        nobodyIsBad(0, "riteFor", 0);
        Run x = told("inmate in 7 grace 0;".repeat(8), 8).still(7, "riteFor", 0).still(7, "riteFor", 7);
        // From 0 on, where the first RITE alone stops it.
        x = told("inmate in 0 grace 0;due 0;rite 0 is 1;", 1);
        for (int room = 1; room < 8; room++) {
            x.does("rite", room, 0);
        }
        x.still(0, "riteFor", 0);
    }

    @Edge(of = "Promise 29", says = "NONE: by none.")
    static void p29_noneByNone() {
        // OUT; nothing stops it; held for ever.
        told("inmate in 7 grace 10;", 1).still(NONE, "riteFor", 0).does("grace", 0, 9).still(7, "riteFor", 0)
            .does("bring", 0, 8).still(NONE, "riteFor", 0);
        told("inmate in 7 grace 0;inmate in 7 grace 0;wait 0 for 1;wait 1 for 0;", 2).still(NONE, "riteFor", 0);
    }

    @Edge(of = "Promise 30", says = "HOST FOR one. BAD;")
    static void p30_bad() {
        nobodyIsBad(0, "hostFor", 0);
        // For the first and the last there is; all eight leave in the first, so one waits an OCCASION for those behind it.
        Run x = told("inmate in 7 grace 98;".repeat(8), 8).still(1, "hostFor", 0).still(7, "hostFor", 6);
        x.does("grace", 7, 0).still(7, "hostFor", 0).does("grace", 0, 0).does("await", 0, 7).still(0, "hostFor", 7);
    }

    @Edge(of = "Promise 30", says = "NONE: by nobody.")
    static void p30_noneByNobody() {
        told("inmate in 7 grace 0;", 1).still(NONE, "hostFor", 0);
        // The last of eight: those before it have gone already at its turn.
        told("inmate in 7 grace 98;".repeat(8), 8).still(NONE, "hostFor", 7).does("bring", 0, 8)
            .still(NONE, "hostFor", 0);
    }

    @Edge(of = "Promise 31", says = "FITS: what = 0 how many numbers, 1 the least. BAD: no such SHEET, one, what;")
    static void p31_bad() {
        Run x = Run.busyFed(1).outside(BAD, 0, 0, 3, "fits", 0, 0, 0).outside(BAD, 2, 0, 1, "fits", 0, 0, 0);
        x.still(0, "fits", 0, 0, 0).still(NONE, "fits", 0, 0, 1);
        nobodyIsBad(1, "fits", 0, 0, 0);
        // BAD before -11, at each place.
        x.still(-11, "fits", 3, 0, 0).still(BAD, "fits", 3, 1, 0).still(BAD, "fits", 3, 0, 2)
            .still(BAD, "fits", 3, -1, -1);
        x.does("sheet", 3, 3, 0).still(100, "fits", 3, 0, 0).still(0, "fits", 3, 0, 1);
    }

    @Edge(of = "Promise 31", says = "-11;")
    static void p31_nothingThere() {
        Run x = Run.busyFed(1).still(-11, "fits", 3, 0, 0).still(-11, "fits", 3, 0, 1).does("sheet", 0, -1, 0)
            .still(-11, "fits", 0, 0, 0);
        x.does("sheet", 0, 0, 0).still(100, "fits", 0, 0, 0);
    }

    @Edge(of = "Promise 31", says = "NONE (what 1): none.")
    static void p31_noneFits() {
        Run x = told("inmate in 7 grace 0;rite 7 is 99;", 1).does("sheet", 0, 0, 1).does("put", 0, 0, 8);
        x.still(1, "fits", 0, 0, 0).still(99, "fits", 0, 0, 1).does("mind", 0, 1);
        x.still(0, "fits", 0, 0, 0).still(NONE, "fits", 0, 0, 1);
    }

    // ---- 32, 33 ----

    @Edge(of = "Promise 32", says = "ODDS by n (0 to 8), k (0 to n): a part of them. BAD.")
    static void p32_bad() {
        Run x = Run.busyFed(1).outside(BAD, 0, 0, 8, "odds", 0, 0, 0).outside(BAD, 2, 0, 1, "odds", 8, 8, 0);
        for (int n = 0; n <= 8; n++) {
            // SNEEZE 50: k of n in 2 ^ n.
            x.outside(BAD, 1, 0, n, "odds", n, 0, 0).still(1, "odds", n, 0, 0).still(1, "odds", n, n, 0)
                .still(1 << n, "odds", n, n, 1);
        }
        x.still(35, "odds", 8, 4, 0).still(128, "odds", 8, 4, 1).still(BAD, "odds", 9, 9, 0)
            .still(BAD, "odds", -1, -1, 0);
    }

    @Edge(of = "Promise 33", says = "HOPE by n (0 to 99): a part of it. BAD.")
    static void p33_bad() {
        Run x = Run.busyFed(1).outside(BAD, 0, 0, 99, "hope", 0, 0).outside(BAD, 1, 0, 1, "hope", 99, 0);
        x.still(0, "hope", 0, 0).still(1, "hope", 0, 1).still(99, "hope", 99, 0).still(2, "hope", 99, 1)
            .still(49, "hope", 98, 0).still(1, "hope", 98, 1);
    }

    // ---- 34 to 37 ----

    @Edge(of = "Promise 34", says = "ROWS of one by n OCCASIONS (1 to 10): how many. BAD.")
    static void p34_bad() {
        Run x = Run.busyFed(1).outside(BAD, 1, 1, 10, "prove", 0, 1).due(2, "many", 4);
        x.due(10, "prove", 0, 10).due(10, "many", 4).outside(BAD, 1, 1, 10, "prove", 0, 1);
        // Fewer ROWS than before: the others are no more.
        x.due(1, "prove", 0, 1).due(1, "many", 4).still(-9, "row", 1, 0);
        nobodyIsBad(0, "prove", 0, 1);
        nobodyIsBad(0, "prove", 0, 10);
    }

    @Edge(of = "Promise 35", says = "2 those OUT. -9: there is none such, another what.")
    static void p35_noneSuch() {
        new Run().outside(-9, 0, 0, -1, "row", 0, 0).still(-9, "row", 0, 3);
        Run x = Run.busyFed(1).outside(-9, 0, 0, 1, "row", 0, 0).outside(-9, 1, 0, 2, "row", 1, 0)
            .still(0, "row", 1, 2);
        x.does("prove", 0, 10).outside(-9, 0, 0, 9, "row", 0, 2).outside(-9, 1, 0, 2, "row", 9, 0);
        // GRACE 10 and RITE 10 (21 in 1, 12 in 6), EASE 4, DUE 1:
        // in 1 with 9 behind 1, in 2 with 20 behind 5, then a ROOM on with 1 less each.
        x.still(1, "row", 0, 0).still(9, "row", 0, 1).still(0, "row", 0, 2).still(7, "row", 9, 0)
            .still(15, "row", 9, 1);
    }

    @Edge(of = "Promise 36", says = "It becomes v: what it was. -9 likewise.")
    static void p36_noneSuch() {
        new Run().outside(-9, 0, 0, -1, "alterRow", 0, 0, 5);
        Run x = Run.busyFed(1).outside(-9, 0, 0, 1, "alterRow", 0, 0, 5).outside(-9, 1, 0, 2, "alterRow", 1, 0, 5);
        // Every int is taken; what it was may be -9, too.
        x.due(0, "alterRow", 1, 2, LEAST).due(LEAST, "alterRow", 1, 2, MOST).due(MOST, "alterRow", 1, 2, -9)
            .due(-9, "alterRow", 1, 2, 0);
        x.due(0, "row", 1, 2).due(77, "alterRow", 0, 1, -1).due(-1, "row", 0, 1).due(1, "row", 0, 0);
        x.does("prove", 0, 10).outside(-9, 0, 0, 9, "alterRow", 0, 0, 5);
    }

    @Edge(of = "Promise 37", says = "THE READER takes ROWS: 0 all is right (also if there are none)")
    static void p37_rightAlsoIfThereAreNone() {
        Run x = told("inmate in 7 grace 0;inmate in 0;", 2).still(0, "judge", 0).still(0, "judge", 1);
        x.does("prove", 0, 10).still(0, "judge", 0).does("prove", 0, 1).still(0, "judge", 0).still(1, "judge", 1);
    }

    @Edge(of = "Promise 37", says = "else the first ROW that isn't, and 1 more.")
    static void p37_theFirstRowThatIsNot() {
        Run x = told("inmate in 7 grace 0;", 1).does("prove", 0, 10);
        for (int i = 9; i >= 0; i--) {
            for (int what = 0; what < 3; what++) {
                long was = x.answer("row", i, what);
                x.does("alterRow", i, what, was + 1).still(i + 1, "judge", 0).does("alterRow", i, what, was)
                    .still(0, "judge", 0);
            }
        }
        // Two that aren't: the first.
        x.does("alterRow", 9, 0, LEAST).still(10, "judge", 0).does("alterRow", 0, 2, MOST).still(1, "judge", 0);
    }

    @Edge(of = "Promise 37", says = "BAD.")
    static void p37_bad() {
        nobodyIsBad(0, "judge", 0);
        new Run().still(BAD, "judge", 0);
    }

    // ---- 38 ----

    private static Run mindful() {
        Run x = Run.busyFed(8).does("sheet", 3, 0, 40);
        for (int i = 0; i < 40; i++) {
            x.does("put", 3, i, i + 50);
        }
        return x;
    }

    @Edge(of = "Promise 38", says = "n numbers (0 to 8) of a SHEET taken for bytes, from i on")
    static void p38_nFrom0To8() {
        Run x = mindful().outside(BAD, 3, 0, 8, "minds", 3, 0, 0, 0).still(0, "minds", 3, 0, 0, 0);
        x.due(8, "minds", 3, 0, 0, 8).due(50, "of", 0, 1).due(57, "of", 7, 1);
        x.due(8, "minds", 3, 32, 0, 8).due(82, "of", 0, 1).due(89, "of", 7, 1);
        x.due(1, "minds", 3, 39, 7, 1).due(89, "of", 7, 1).due(88, "of", 6, 1);
    }

    @Edge(of = "Promise 38", says = "become GRACE of INMATES from one on (held to 0 to 99): n.")
    static void p38_heldTo0To99() {
        Run x = Run.busyFed(8).does("sheet", 3, 0, 8);
        int[] puts = {-1, 0, 99, 100, 127, 128, -128, 98};
        int[] graces = {0, 0, 99, 99, 99, 0, 0, 98};
        for (int i = 0; i < 8; i++) {
            x.does("put", 3, i, puts[i]);
        }
        x.due(8, "minds", 3, 0, 0, 8);
        for (int i = 0; i < 8; i++) {
            x.due(graces[i], "of", i, 1);
        }
        x.due(-128, "item", 3, 0, 6);
    }

    @Edge(of = "Promise 38", says = "BAD: no such SHEET, one, n, or n goes beyond the last one;")
    static void p38_bad() {
        Run x = mindful().outside(BAD, 0, 0, 3, "minds", 3, 0, 0, 1).outside(BAD, 2, 0, 7, "minds", 3, 0, 0, 0);
        x.outside(BAD, 3, 0, 8, "minds", 3, 0, 0, 0);
        for (int one = 0; one < 8; one++) {
            x.still(BAD, "minds", 3, 0, one, 9 - one).does("minds", 3, 0, one, 8 - one).due(57 - one, "of", 7, 1);
        }
        // Of nobody, not even none; BAD before what the host refuses.
        nobodyIsBad(2, "minds", 0, 0, 0, 0);
        Run.busyFed(3).still(BAD, "minds", 3, 99, 3, 0).still(BAD, "minds", 1, 99, 0, 4)
            .still(BAD, "minds", 0, 99, 2, 2);
    }

    @Edge(of = "Promise 38", says = "-11;")
    static void p38_nothingThere() {
        Run x = Run.busyFed(3).still(-11, "minds", 3, 0, 0, 0).still(-11, "minds", 3, -1, 0, 1);
        x.does("sheet", 3, 0, 0).still(0, "minds", 3, 0, 0, 0).does("sheet", 3, -1, 0).still(-11, "minds", 3, 0, 0, 0);
    }

    @Edge(of = "Promise 38", says = "-13;")
    static void p38_notBytes() {
        Run x = Run.busyFed(3);
        for (int sort = 1; sort <= 3; sort++) {
            x.does("sheet", 3, sort, 3).still(-13, "minds", 3, 0, 0, 0).still(-13, "minds", 3, 4, 0, 1)
                .still(-13, "minds", 3, -1, 0, 0);
        }
        x.does("sheet", 3, 0, 3).due(3, "minds", 3, 0, 0, 3).due(0, "state", 3);
    }

    @Edge(of = "Promise 38", says = "-12: i is not 0 to how many items there are (also for n 0), or there are not so many.")
    static void p38_placeOutside() {
        Run x = mindful().outside(-12, 1, 0, 40, "minds", 3, 0, 0, 0).still(0, "minds", 3, 0, 0, 0)
            .still(0, "minds", 3, 40, 0, 0);
        x.still(-12, "minds", 3, 40, 0, 1).due(1, "minds", 3, 39, 0, 1).still(-12, "minds", 3, 33, 0, 8)
            .due(8, "minds", 3, 32, 0, 8);
        x.outside(-12, 1, 0, 32, "minds", 3, 0, 0, 8);
        // A row of none.
        x.does("sheet", 3, 0, 0).still(0, "minds", 3, 0, 0, 0).still(-12, "minds", 3, 0, 0, 1)
            .still(-12, "minds", 3, 1, 0, 0);
    }

    // ---- 39 to 41 ----

    @Edge(of = "Promise 39", says = "A SHEET becomes a row of n of a sort, all 0")
    static void p39_nFrom0To40All0() {
        Run x = new Run();
        for (int sort = 0; sort < 4; sort++) {
            x.due(1, "sheet", sort, sort, 40).does("put", sort, 0, 7).does("put", sort, 39, 7)
                .due(7, "item", sort, sort, 39);
            x.due(1, "sheet", sort, sort, 40).due(0, "item", sort, sort, 0).due(0, "item", sort, sort, 39);
            x.due(1, "sheet", sort, sort, 0).still(-12, "item", sort, sort, 0).still(-12, "put", sort, 0, 1);
            // Longer again: what was there is no more.
            x.due(1, "sheet", sort, sort, 1).due(0, "item", sort, sort, 0).still(-12, "item", sort, sort, 1);
        }
    }

    @Edge(of = "Promise 39", says = "or missing (sort -1; n counts nothing then): 1.")
    static void p39_missingWhateverN() {
        for (int n : new int[] {0, 1, 40, 41, -1, LEAST, MOST}) {
            Run.busyFed(1).due(1, "sheet", 0, -1, n).still(-11, "item", 0, 0, 0).due(1, "sheet", 0, -1, n)
                .still(-11, "put", 0, 0, 0)
                .due(1, "sheet", 0, 1, 1).due(0, "item", 0, 1, 0);
        }
    }

    @Edge(of = "Promise 39", says = "BAD: no such SHEET, sort, n above 40;")
    static void p39_bad() {
        Run x = Run.busyFed(1).outside(BAD, 0, 0, 3, "sheet", 0, 0, 0).outside(BAD, 0, 0, 3, "sheet", 0, -1, 0);
        x.outside(BAD, 1, -1, 3, "sheet", 0, 0, 0);
        for (int sort = 0; sort < 4; sort++) {
            x.still(BAD, "sheet", 0, sort, 41).still(BAD, "sheet", 0, sort, MOST).still(BAD, "sheet", 4, sort, -1);
        }
        x.still(BAD, "sheet", 0, 4, -1).still(BAD, "sheet", 0, -2, -1).due(1, "sheet", 0, 0, 40);
    }

    @Edge(of = "Promise 39", says = "-14.")
    static void p39_sizeBelow0() {
        for (int sort = 0; sort < 4; sort++) {
            Run.busyFed(1).still(-14, "sheet", sort, sort, -1).still(-14, "sheet", 3, sort, LEAST)
                .still(-11, "item", 3, 0, 0)
                .due(1, "sheet", sort, sort, 0);
        }
    }

    @Edge(of = "Promise 40", says = "Item i becomes v, narrowed to its sort: 1.")
    static void p40_narrowed() {
        int[][] bytes = {{127, 127}, {128, -128}, {-128, -128}, {-129, 127}, {255, -1}, {256, 0}, {MOST, -1}, {LEAST, 0}};
        int[][] shorts = {{32767, 32767}, {32768, -32768}, {-32768, -32768}, {-32769, 32767}, {65535, -1}, {65536, 0},
            {MOST, -1}, {LEAST, 0}};
        int[][] ints = {{MOST, MOST}, {LEAST, LEAST}, {-1, -1}, {0, 0}};
        int[][][] bySort = {bytes, shorts, ints, ints};
        for (int sort = 0; sort < 4; sort++) {
            Run x = new Run().does("sheet", 0, sort, 40);
            for (int[] one : bySort[sort]) {
                x.due(1, "put", 0, 39, one[0]).due(one[1], "item", 0, sort, 39).due(0, "item", 0, sort, 38);
            }
        }
    }

    @Edge(of = "Promise 40", says = "BAD: no such SHEET;")
    static void p40_bad() {
        Run.busyFed(1).outside(BAD, 0, 0, 3, "put", 0, 0, 9).outside(BAD, 0, 0, 3, "put", 0, 99, 9)
            .due(1, "put", 0, 0, 9);
    }

    @Edge(of = "Promise 40", says = "-11;")
    static void p40_nothingThere() {
        Run x = Run.busyFed(1).still(-11, "put", 3, 0, 9).still(-11, "put", 3, -1, 9);
        x.does("sheet", 3, 0, 1).due(1, "put", 3, 0, 9).does("sheet", 3, -1, 1).still(-11, "put", 3, 0, 9);
    }

    @Edge(of = "Promise 40", says = "-12.")
    static void p40_placeOutside() {
        Run x = Run.busyFed(1).outside(-12, 1, 0, 2, "put", 0, 0, 9).due(1, "put", 0, 0, 9).due(1, "put", 0, 2, 9);
        for (int sort = 0; sort < 4; sort++) {
            x.does("sheet", 3, sort, 40).outside(-12, 1, 0, 39, "put", 3, 0, 9).due(1, "put", 3, 39, 9);
            x.does("sheet", 3, sort, 0).outside(-12, 1, 0, -1, "put", 3, 0, 9);
        }
    }

    @Edge(of = "Promise 41", says = "Item i, taken for a sort (0 to 3; of longs the lowest 32 bits).")
    static void p41_ofLongsTheLowest32Bits() {
        Run x = new Run().does("sheet", 3, 3, 1).does("put", 3, 0, LEAST).still(LEAST, "item", 3, 3, 0);
        x.does("put", 3, 0, MOST).still(MOST, "item", 3, 3, 0).does("put", 3, 0, -1).still(-1, "item", 3, 3, 0);
    }

    @Edge(of = "Promise 41", says = "BAD: no such SHEET, sort;")
    static void p41_bad() {
        Run x = Run.busyFed(1).outside(BAD, 0, 0, 3, "item", 0, 0, 0).outside(BAD, 1, 0, 3, "item", 0, 0, 0);
        // BAD before -11, -13, -12.
        x.still(BAD, "item", 3, 4, 0).still(BAD, "item", 3, -1, 0).still(BAD, "item", 0, 4, 99)
            .still(BAD, "item", 4, 0, 99);
    }

    @Edge(of = "Promise 41", says = "-11;")
    static void p41_nothingThere() {
        Run x = Run.busyFed(1).still(-11, "item", 3, 0, 0).still(-11, "item", 3, 3, -1).does("sheet", 3, 3, 1);
        x.still(0, "item", 3, 3, 0).does("sheet", 3, -1, 1).still(-11, "item", 3, 3, 0);
    }

    @Edge(of = "Promise 41", says = "-13;")
    static void p41_otherSort() {
        Run x = Run.busyFed(1);
        for (int sheet = 0; sheet < 3; sheet++) {
            for (int sort = 0; sort < 4; sort++) {
                x.still(sheet == sort ? 5 : -13, "item", sheet, sort, 0);
                x.still(sheet == sort ? -12 : -13, "item", sheet, sort, 3);
            }
        }
        x.does("sheet", 3, 3, 0).still(-13, "item", 3, 2, 0).still(-12, "item", 3, 3, 0);
    }

    @Edge(of = "Promise 41", says = "-12.")
    static void p41_placeOutside() {
        Run x = Run.busyFed(1);
        for (int sheet = 0; sheet < 3; sheet++) {
            x.outside(-12, 2, 0, 2, "item", sheet, sheet, 0).still(5, "item", sheet, sheet, 0);
            x.still(100, "item", sheet, sheet, 2);
        }
        x.does("sheet", 3, 3, 40).outside(-12, 2, 0, 39, "item", 3, 3, 0).still(0, "item", 3, 3, 39);
        x.does("sheet", 3, 3, 0).outside(-12, 2, 0, -1, "item", 3, 3, 0);
    }

    @Edge(of = "Promise 41", says = "(An item may be as low as these, too.)")
    static void p41_anItemMayBeAsLow() {
        for (int sort = 0; sort < 4; sort++) {
            Run x = new Run().does("sheet", 0, sort, 1);
            for (int v : new int[] {-1, -2, -3, -11, -12, -13, -14, -15}) {
                x.due(1, "put", 0, 0, v).still(v, "item", 0, sort, 0);
            }
        }
    }

    // ---- 42, 43 ----

    @Edge(of = "Promise 42", says = "A SHELF holds one of the INMATES (what 0, its number n)")
    static void p42_theFirstAndTheLastOne() {
        Run x = Run.busyFed(8).due(1, "shelf", 0, 0, 0).due(0, "taken", 0, 0).due(1, "shelf", 3, 0, 7)
            .due(7, "taken", 3, 0);
        x.outside(BAD, 2, 0, 7, "shelf", 0, 0, 0).due(0, "taken", 0, 0);
        nobodyIsBad(2, "shelf", 0, 0, 0);
    }

    @Edge(of = "Promise 42", says = "the row of SHEET n (1; nothing, if missing), nothing (2): 1.")
    static void p42_nothingIfMissing() {
        Run x = Run.busyFed(1).due(1, "shelf", 0, 1, 3).still(-11, "taken", 0, 0).still(-11, "taken", 0, 13);
        x.does("sheet", 3, 3, 0).still(-11, "taken", 0, 13).due(1, "shelf", 0, 1, 3).due(0, "taken", 0, 13);
        // What the SHEET becomes then is another row.
        x.does("sheet", 3, 0, 40).due(0, "taken", 0, 13).does("sheet", 3, -1, 0).due(0, "taken", 0, 13)
            .still(-13, "taken", 0, 10);
        for (int n : new int[] {0, 9, -1, LEAST, MOST}) {
            x.does("shelf", 0, 0, 0).due(1, "shelf", 0, 2, n).still(-11, "taken", 0, 0);
        }
    }

    @Edge(of = "Promise 42", says = "BAD: no such SHELF, what, thing.")
    static void p42_bad() {
        Run x = Run.busyFed(1);
        for (int what = 0; what < 3; what++) {
            x.outside(BAD, 0, 0, 3, "shelf", 0, what, 0);
        }
        x.outside(BAD, 1, 0, 2, "shelf", 0, 0, 0).outside(BAD, 2, 0, 3, "shelf", 0, 1, 0)
            .outside(BAD, 2, 0, 0, "shelf", 1, 0, 0);
        x.due(1, "shelf", 3, 1, 3).due(1, "shelf", 3, 1, 0).due(3, "taken", 3, 10);
    }

    @Edge(of = "Promise 43", says = "taken for a thing of KIND as (0 to 5, or one under it): its number; for a row of sort as - 10 (as 10 to 13): how many items.")
    static void p43_as0To5And10To13() {
        Run x = Run.busyFed(8);
        for (int kind = 0; kind < 6; kind++) {
            x.does("shelf", 0, 0, kind).still(kind, "taken", 0, kind).still(kind, "taken", 0, 0);
        }
        for (int sort = 0; sort < 4; sort++) {
            x.does("sheet", 0, sort, 40).does("shelf", 1, 1, 0).still(40, "taken", 1, 10 + sort);
            x.does("sheet", 0, sort, 0).does("shelf", 1, 1, 0).still(0, "taken", 1, 10 + sort);
        }
    }

    @Edge(of = "Promise 43", says = "BAD: no such SHELF, as;")
    static void p43_bad() {
        Run x = Run.busyFed(1);
        for (int shelf = 0; shelf < 3; shelf++) {
            // One of the INMATES, a row, nothing: as is looked at first.
            x.outside(BAD, 1, 0, 5, "taken", shelf, 0).outside(BAD, 1, 10, 13, "taken", shelf, 10);
            for (int as = 6; as < 10; as++) {
                x.still(BAD, "taken", shelf, as);
            }
        }
        x.outside(BAD, 0, 0, 3, "taken", 0, 0).outside(BAD, 0, 0, 3, "taken", 0, 10).still(0, "taken", 3, 0);
    }

    @Edge(of = "Promise 43", says = "-11;")
    static void p43_nothingThere() {
        Run x = Run.busy(1);
        for (int as : new int[] {0, 5, 10, 13}) {
            x.still(-11, "taken", 2, as);
        }
        // One that is no more there is nothing, whatever it is taken for.
        x.does("shelf", 2, 0, 0).still(0, "taken", 2, 0).text("", 0).still(-11, "taken", 2, 0).still(-11, "taken", 2, 10);
    }

    @Edge(of = "Promise 43", says = "-13.")
    static void p43_ofAnotherSortOrKind() {
        // One of the INMATES, of KIND 0; a row of bytes.
        Run x = Run.busyFed(1);
        for (int as : new int[] {1, 2, 3, 4, 5, 10, 11, 12, 13}) {
            x.still(-13, "taken", 0, as);
        }
        for (int as : new int[] {0, 1, 2, 3, 4, 5, 11, 12, 13}) {
            x.still(-13, "taken", 1, as);
        }
        x.still(0, "taken", 0, 0).still(3, "taken", 1, 10);
    }

    // ---- 44 to 46 ----

    @Edge(of = "Promise 44", says = "An ACT (0 to 3) of the thing on a SHELF, with x.")
    static void p44_acts0To3() {
        // Number 0 in ROOM 0; then parts by 7.
        Run x = told("inmate in 0;", 1).does("shelf", 3, 0, 0);
        x.due(4, "act", 3, 0, 1).due(4, "act", 3, 1, 1).due(-15, "act", 3, 2, 1).due(4 ^ 180, "act", 3, 3, 1);
        x.does("bring", 0, 7).due(0, "act", 3, 2, 6).due(1, "act", 3, 2, 7).due(0, "act", 3, 0, 0).due(1, "many", 6);
        // An answer below 0 is none of the refusals: -15 as well.
        x.due(-4, "act", 3, 0, -1).due(-15, "act", 3, 2, -105).due(1, "many", 6);
    }

    @Edge(of = "Promise 44", says = "0, and no TRACE then: no such SHELF, act, nothing, a row.")
    static void p44_noTraceThen() {
        long[][] refused = {{-1, 0}, {4, 0}, {LEAST, 0}, {MOST, 0}, {0, -1}, {0, 4}, {0, LEAST}, {0, MOST},
            {2, 0}, {2, 3}, {1, 0}, {1, 3}};
        for (long[] one : refused) {
            Run x = Run.busyFed(2).due(3, "many", 6).due(0, "act", one[0], one[1], 9).due(0, "many", 6)
                .still(NONE, "trace", 0);
            // But for THE TRACE all is as it was.
            x.due(1, "taken", 3, 1).due(0, "taken", 0, 0).due(3, "taken", 1, 10).still(-11, "taken", 2, 0)
                .due(36, "act", 0, 0, 9).due(10, "trace", 0);
        }
        Run.busy(2).text("", 0).due(3, "many", 6).due(0, "act", 0, 0, 9).due(0, "many", 6);
    }

    @Edge(of = "Promise 45", says = "THE TRACE's i-th body. NONE.")
    static void p45_none() {
        new Run().outside(NONE, 0, 0, -1, "trace", 0).still(NONE, "trace", 29).still(NONE, "trace", 30);
        Run.busyFed(1).still(13, "trace", 0).still(10, "trace", 2).outside(NONE, 0, 0, 2, "trace", 0);
        // A shorter one: those of the act() before are no more.
        Run.busyFed(1).does("act", 0, 0, 1).still(10, "trace", 0).still(NONE, "trace", 1).still(NONE, "trace", 2);
    }

    @Edge(of = "Promise 46", says = "6 bodies of THE TRACE. BAD: another what.")
    static void p46_bad() {
        Run.busyFed(8).outside(BAD, 0, 0, 6, "many", 0).still(8, "many", 0).still(3, "many", 6);
    }

    @Edge(of = "Promise 46", says = "How many: what = 0 INMATES, 1 those OUT, 2 those that WAIT for somebody, 3 those HELD now, 4 ROWS, 5 bytes of THE TAPE")
    static void p46_fromNoneToAll() {
        Run x = new Run();
        for (int what = 0; what <= 6; what++) {
            x.still(0, "many", what);
        }
        x.text("nun in 0;".repeat(8), 8);
        for (int i = 0; i < 8; i++) {
            x.does("await", i, 7 - i);
        }
        x.due(8, "many", 0).due(0, "many", 1).due(8, "many", 2).due(8, "many", 3);
        for (int i = 0; i < 8; i++) {
            x.does("bring", i, 8);
        }
        // One that is OUT WAITS, but isn't HELD.
        x.due(8, "many", 1).due(8, "many", 2).due(0, "many", 3);
        x.does("prove", 0, 10).due(10, "many", 4).feed(" ".repeat(200)).due(200, "many", 5);
    }

    // ---- 47, 48 ----

    @Edge(of = "Promise 47", says = "All but THE TAPE, ROWS, SHEETS, SHELVES, THE TRACE is kept: 1.")
    static void p47_allButThese() {
        // With nothing there, and with all there is.
        new Run().due(1, "keep").does("inmate", 0, 0, 0).due(0, "again").due(0, "many", 0);
        Run x = Run.busyFed(8).due(1, "keep");
        x.does("grace", 7, 99).does("mind", 7, 0).does("bring", 7, 8).does("await", 7, 0).does("set", 3, 99)
            .does("rite", 7, 99);
        x.does("occasions", 1).does("seed", LEAST);
        x.feed("  ").does("prove", 0, 10).does("sheet", 0, 3, 40).does("shelf", 1, 1, 0).does("act", 0, 0, 1);
        x.due(8, "again").due(17, "of", 7, 1).due(1, "of", 7, 0).due(7, "of", 7, 2).due(0, "of", 7, 3)
            .due(50, "lawOf", 3);
        x.due(10, "room", 7, 0).due(3, "state", 0).due(99, "seed", 99);
        x.due(12, "many", 5).due(10, "many", 4).due(0, "item", 0, 3, 39).due(40, "taken", 1, 13).due(1, "many", 6);
    }

    @Edge(of = "Promise 48", says = "It becomes what was kept latest (which stays): how many INMATES.")
    static void p48_theLatestWhichStays() {
        Run x = new Run().due(1, "keep").does("inmate", 0, 0, 0).due(1, "keep").does("inmate", 0, 0, 0)
            .due(2, "many", 0);
        x.due(1, "again").due(1, "many", 0).due(1, "again");
        // What happens then doesn't reach what is kept.
        x.does("grace", 0, 9).does("bring", 0, 8).does("occasions", 60).does("inmate", 0, 0, 0).does("await", 0, 1)
            .does("rite", 0, 0).does("set", 0, 0);
        x.due(1, "again").due(0, "of", 0, 1).due(0, "of", 0, 2).due(0, "of", 0, 3).due(0, "state", 0)
            .due(10, "room", 0, 0).due(2, "lawOf", 0);
        x.text("nun in 0;".repeat(8), 8).due(1, "again").due(1, "keep").text("", 0).due(1, "again");
    }

    @Edge(of = "Promise 48", says = "NONE: nothing is kept.")
    static void p48_noneIfNothingIsKept() {
        new Run().still(NONE, "again");
        Run x = told("nun in 3;", 1).does("occasions", 1).does("set", 0, 9).feed("  ").still(NONE, "again")
            .due(1, "keep").due(1, "again");
        x.text("", 0).due(1, "again");
    }
}
