import java.util.List;

/**
 * A test of its own for each sentence of "What it is" and of "Terms" that names an edge. By the name: t0 is the
 * beginning of Terms, t1, t2, t3 its parts; the words that a test is for stand with it.
 */
public final class EdgesOfTermsTest {
    private static final int BAD = -1, FULL = -2, NONE = -3, LEAST = Run.LEAST, MOST = Run.MOST;
    private static final long BLANKS = 0x2020202020202020L;
    /** Goes in the 60th OCCASION with GRACE 39 in ROOM 7, in the 61st with 38, in the n-th with 99 - n. */
    private static final String SLOW = "ease 1;rite 7 is 98;";

    public static void main(String[] args) throws Exception {
        Edges.run(EdgesOfTermsTest.class, List.of("Terms"));
    }

    private static Run told(String text, int inmates) {
        return new Run().text(text, inmates);
    }

    // ---- What it is ----

    @Edge(of = "What it is", says = "An object is used for at most 512 calls after it has been made; what later calls answer is free.")
    static void t_the512thCallAnswers() {
        MannersGaol x = new MannersGaol();
        Due.is("call 1: inmate", x.inmate(0, 0, 0), 0);
        x.set(2, 0);
        for (int call = 3; call <= 511; call++) {
            x.occasions(60);
        }
        Due.is("call 512: state(0)", x.state(0), 509 * 60);
        // What it answers then is free, but no call throws.
        x.occasions(60);
        x.gaol();
        x.again();
        x.kindFor(0);
    }

    @Edge(of = "What it is", says = "An object is used for at most 512 calls")
    static void t_512CallsFeedTheTape() {
        MannersGaol x = new MannersGaol();
        for (int call = 1; call <= 200; call++) {
            Due.is("feed", x.feed(BLANKS, 1), call);
        }
        for (int call = 201; call <= 512; call++) {
            Due.is("feed", x.feed(BLANKS, 1), FULL);
        }
    }

    // ---- Terms, its beginning ----

    @Edge(of = "Terms", says = "Answers below 0, where not told otherwise, are refusals; such a call changes nothing")
    static void t0_aRefusedCallChangesNothing() {
        long[] all = {LEAST, -2, -1, 0, 1, 3, 7, 8, 9, 31, 40, 41, 60, 61, 99, 100, MOST};
        long[] few = {LEAST, -1, 0, 2, 4, 9, 41, MOST};
        for (String name : List.of("lawOf", "excuse", "room", "of", "does", "occasions", "luck", "state", "leaves",
                "empty", "knot", "kindFor", "riteFor", "hostFor", "judge", "trace", "many", "again")) {
            sweep(name, all);
        }
        for (String name : List.of("feed", "set", "mind", "grace", "bring", "await", "rite", "where", "passes", "rudeFor",
                "graceFor", "hope", "prove", "taken", "inmate", "fits", "odds", "sheet", "put", "shelf", "minds")) {
            sweep(name, few);
        }
    }

    /** Every refused call with arguments of these leaves two objects the same: one with many INMATES, one with none. */
    private static void sweep(String name, long[] values) {
        int places = 0;
        for (var m : MannersGaol.class.getMethods()) {
            places = m.getName().equals(name) ? m.getParameterCount() : places;
        }
        int turns = (int) Math.pow(values.length, places);
        for (int inmates : new int[] {0, 8}) {
            Run x = Run.busyFed(inmates);
            for (int turn = 0; turn < turns; turn++) {
                long[] args = new long[places];
                for (int k = 0, rest = turn; k < places; k++, rest /= values.length) {
                    args[k] = values[rest % values.length];
                }
                x.stillIfBelow0(name, args);
            }
        }
    }

    @Edge(of = "Terms", says = "(but that THE TAPE is used up by gaol())")
    static void t0_theTapeIsUsedUpByARefusedGaol() {
        Run.busy(3).fault(13, "nun in 3;nun on 4;").fault(0, ";").fault(3, "nun");
    }

    @Edge(of = "Terms", says = {"of several the first named: BAD (-1) there is no such thing, or a number is not as told; FULL (-2)"})
    static void t0_firstNamedBadThenFull() {
        Run x = Run.busy(8);
        x.still(BAD, "inmate", 6, 0, 0).still(BAD, "inmate", 0, 100, 0).still(BAD, "inmate", 0, 0, 8);
        x.still(FULL, "inmate", 5, 99, 7);
        x.feed(" ".repeat(200));
        x.still(BAD, "feed", BLANKS, 9).still(BAD, "feed", BLANKS, 0).still(FULL, "feed", BLANKS, 8);
    }

    @Edge(of = "Terms", says = "NONE (-3); and what the host refuses")
    static void t0_firstNamedBadThenNone() {
        Run x = Run.busyFed(3).does("bring", 0, 8);
        x.still(BAD, "does", 0, 3).still(BAD, "does", 3, 0).still(NONE, "does", 0, 0);
        x.does("await", 1, 2).does("await", 2, 1).does("bring", 2, 1);
        x.still(BAD, "passes", 1, 9).still(NONE, "passes", 1, 8);
        x.still(BAD, "rudeFor", 1, 41).still(NONE, "rudeFor", 1, 0);
        x.still(BAD, "graceFor", 1, -1).still(NONE, "graceFor", 1, 40);
        // The host's refusals come behind BAD, and -11 before NONE.
        x.still(BAD, "fits", 3, 0, 2).still(-11, "fits", 3, 0, 1);
    }

    @Edge(of = "Terms", says = "-11 nothing where something is asked, -12 a place outside, -13 a thing of another sort or kind, -14 a size below 0")
    static void t0_whatTheHostRefuses() {
        Run x = Run.busyFed(3);
        x.still(-11, "item", 3, 0, 9).still(-11, "put", 3, 9, 0).still(-11, "taken", 2, 0)
            .still(-11, "minds", 3, 9, 0, 0);
        x.still(-12, "item", 0, 0, 3).still(-12, "put", 0, 3, 0).still(-12, "minds", 0, 4, 0, 0);
        x.still(-13, "item", 0, 1, 3).still(-13, "minds", 1, 9, 0, 0).still(-13, "taken", 0, 1)
            .still(-13, "taken", 1, 11);
        x.still(-14, "sheet", 0, 0, -1);
        // BAD is named before them all.
        x.still(BAD, "item", 3, 4, 9).still(BAD, "put", 4, 9, 0).still(BAD, "taken", 2, 6)
            .still(BAD, "sheet", 0, 4, -1);
    }

    @Edge(of = "Terms", says = "-15 parted by 0.")
    static void t0_partedBy0() {
        // Numbers 0 and 7 in the ROOMS of their numbers, and beside these.
        Run x = Run.busyFed(8).does("mind", 7, 0);
        x.does("shelf", 0, 0, 0).does("shelf", 1, 0, 7);
        x.due(-15, "act", 0, 2, 5).due(-15, "act", 1, 2, 0);
        x.does("bring", 0, 1).due(5, "act", 0, 2, 5);
        x.does("bring", 7, 8).due(5, "act", 1, 2, 5);
        x.does("bring", 7, 6).due(-5, "act", 1, 2, 5);
    }

    @Edge(of = "Terms", says = "Sets are told by bits.")
    static void t0_setsToTheEighthBit() {
        Run x = new Run().due(0, "room", 0, 1);
        for (int i = 0; i < 8; i++) {
            x.does("inmate", 0, 0, 0);
            x.due((1 << i + 1) - 1, "room", 0, 1);
        }
        x.does("bring", 7, 8).due(128, "state", 1).due(127, "room", 0, 1);
        x.does("bring", 7, 0).does("bring", 0, 8).due(1, "state", 1).due(254, "room", 0, 1);
    }

    @Edge(of = "Terms", says = "Quotients are cut towards 0.")
    static void t0_quotientsAreCutTowards0() {
        // By 3: number 1 in ROOM 4; by -3: number 4 in ROOM 1.
        Run x = told("inmate in 0;inmate in 4;inmate in 0;inmate in 0;inmate in 1;", 5);
        x.does("shelf", 0, 0, 1).does("shelf", 1, 0, 4);
        x.due(0, "act", 0, 2, 2).due(1, "act", 0, 2, 3).due(0, "act", 0, 2, -2).due(-1, "act", 0, 2, -3);
        x.due(-1, "act", 0, 2, -5).due(-2, "act", 0, 2, -6);
        x.due(0, "act", 1, 2, 2).due(-1, "act", 1, 2, 3).due(0, "act", 1, 2, -2).due(1, "act", 1, 2, -5);
    }

    @Edge(of = "Terms", says = "A part of a fraction: 0 above the line, 1 below it, without a common divisor, below above 0 (0 is 0 by 1).")
    static void t0_partsOfAFraction() {
        Run x = new Run();
        // 20 of a hundred: 1 by 5; 5 times that: 1 by 1; 0 times: 0 by 1.
        x.due(1, "hope", 1, 0).due(5, "hope", 1, 1).due(1, "hope", 5, 0).due(1, "hope", 5, 1);
        x.due(0, "hope", 0, 0).due(1, "hope", 0, 1);
        x.outside(BAD, 1, 0, 1, "hope", 1, 0).outside(BAD, 2, 0, 1, "odds", 1, 0, 0);
        x.does("set", 3, 0).due(0, "odds", 8, 8, 0).due(1, "odds", 8, 8, 1).due(1, "odds", 8, 0, 0)
            .due(1, "odds", 8, 0, 1);
        x.due(0, "hope", 99, 0).due(1, "hope", 99, 1);
        // 99 by 100: no common divisor.
        x.does("set", 3, 99).due(99, "odds", 1, 1, 0).due(100, "odds", 1, 1, 1);
    }

    // ---- Terms 1 ----

    @Edge(of = "Terms", says = "0 STRICT (0 to 9; 2 at first)")
    static void t1_strict0To9() {
        law(0, 2, 9);
    }

    @Edge(of = "Terms", says = "1 EASE (0 to 9; 3)")
    static void t1_ease0To9() {
        law(1, 3, 9);
    }

    @Edge(of = "Terms", says = "2 DUE (0 to 9; 2)")
    static void t1_due0To9() {
        law(2, 2, 9);
    }

    @Edge(of = "Terms", says = "3 SNEEZE (0 to 99 of a hundred; 20)")
    static void t1_sneeze0To99() {
        law(3, 20, 99);
    }

    private static void law(int law, int first, int top) {
        new Run().due(first, "lawOf", law).outside(BAD, 1, 0, top, "set", law, 0).due(first, "set", law, top)
            .due(top, "lawOf", law).due(top, "set", law, 0).due(0, "lawOf", law).due(0, "set", law, 1)
            .due(1, "lawOf", law);
    }

    @Edge(of = "Terms", says = "OCCASION (0 at first).")
    static void t1_occasion0AtFirst() {
        new Run().due(0, "state", 0).does("occasions", 1).due(1, "state", 0);
    }

    @Edge(of = "Terms", says = "ROOMS 0 to 7 in a row, each with a RITE (0 to 99; 10 at first)")
    static void t1_rooms0To7RitesOf0To99() {
        Run x = new Run();
        for (int room = 0; room < 8; room++) {
            x.due(10, "room", room, 0).due(10, "rite", room, 99).due(99, "rite", room, 0).due(0, "room", room, 0);
        }
        x.outside(BAD, 0, 0, 7, "rite", 0, 10).outside(BAD, 1, 0, 99, "rite", 7, 10)
            .outside(BAD, 0, 0, 7, "room", 0, 0);
    }

    @Edge(of = "Terms", says = "from 7 one gets OUT (as if a ROOM 8 came behind it).")
    static void t1_from7OneGetsOut() {
        Run x = told("inmate in 6 grace 99;inmate in 7 grace 99;", 2);
        x.due(1, "occasions", 1).due(7, "of", 0, 2).due(8, "of", 1, 2);
        x.due(2, "occasions", 1).due(8, "of", 0, 2).due(8, "of", 1, 2);
        x.due(2, "occasions", 60).due(8, "of", 0, 2).due(8, "of", 1, 2);
    }

    @Edge(of = "Terms", says = "INMATES, 8 at most, numbered as they come")
    static void t1_inmates8AtMost() {
        Run x = new Run();
        for (int i = 0; i < 8; i++) {
            x.due(i, "inmate", i % 6, i, i);
        }
        x.still(FULL, "inmate", 0, 0, 0).due(8, "many", 0);
    }

    @Edge(of = "Terms", says = "each of a KIND: 0 inmate; 1 burglar, 2 duellist, 5 child (under inmate); 3 forger (under burglar); 4 nun (under duellist)")
    static void t1_kinds0To5() {
        Run x = Run.busyFed(3);
        x.outside(BAD, 0, 0, 5, "inmate", 0, 0, 0).outside(BAD, 1, 0, 5, "mind", 0, 0);
        x.due(3, "inmate", 0, 0, 0).due(4, "inmate", 5, 0, 0);
        // A nun is no burglar, a forger no duellist, a child neither: 2 steps up at most.
        x.does("shelf", 2, 0, 3);
        String[] under = {"0", "01", "02", "013", "024", "05"};
        for (int kind = 0; kind < 6; kind++) {
            x.does("mind", 3, kind);
            for (int as = 0; as < 6; as++) {
                x.due(under[kind].indexOf('0' + as) >= 0 ? 3 : -13, "taken", 2, as);
            }
        }
    }

    @Edge(of = "Terms", says = "with GRACE (0 to 99)")
    static void t1_grace0To99() {
        Run x = Run.busyFed(3);
        x.outside(BAD, 1, 0, 99, "inmate", 0, 0, 0).due(3, "inmate", 0, 0, 0).due(4, "inmate", 0, 99, 0);
        x.outside(BAD, 1, 0, 99, "grace", 3, 0).due(0, "grace", 3, 99).due(99, "grace", 4, 0).due(99, "of", 3, 1);
    }

    @Edge(of = "Terms", says = "in a ROOM, or OUT; each WAITS for another one, or for nobody (as it comes).")
    static void t1_waitsForNobodyAsItComes() {
        Run x = told("inmate in 0;inmate in 0;wait 0 for 1;", 2);
        // The numbers 0 and 1 of the gaol before waited: those that come anew don't.
        x.does("gaol").does("inmate", 0, 0, 0).does("inmate", 0, 0, 0).due(0, "of", 0, 3).due(0, "of", 1, 3)
            .due(0, "many", 2);
    }

    @Edge(of = "Terms", says = "One is HELD, if the one for whom it WAITS is in the same ROOM (nobody is that is OUT).")
    static void t1_nobodyIsHeldThatIsOut() {
        Run x = told("inmate in 7;inmate in 7;wait 0 for 1;", 2);
        x.due(1, "of", 0, 4).due(0, "of", 1, 4).due(1, "state", 2).due(1, "many", 3);
        x.does("bring", 1, 6).due(0, "of", 0, 4);
        x.does("bring", 1, 8).due(0, "of", 0, 4);
        x.does("bring", 0, 8).due(0, "of", 0, 4).due(0, "state", 2).due(0, "many", 3).due(2, "of", 0, 3);
        x.does("bring", 0, 0).does("bring", 1, 0).due(1, "of", 0, 4);
    }

    @Edge(of = "Terms", says = "burglar: as inmate, and STRICT. forger: as burglar, less a tenth of GRACE (cut).")
    static void t1_aTenthIsCut() {
        Run x = told("forger in 0 grace 0;", 1);
        int[][] graceAndNeeds = {{0, 12}, {1, 12}, {9, 12}, {10, 11}, {19, 11}, {20, 10}, {90, 3}, {99, 3}};
        for (int[] one : graceAndNeeds) {
            x.does("grace", 0, one[0]).due(1000 + one[1], "does", 0, 0);
        }
        x.does("rite", 0, 0).does("set", 0, 0).due(991, "does", 0, 0);
        x.does("rite", 0, 99).does("set", 0, 9).does("grace", 0, 0).due(1108, "does", 0, 0);
        x.does("mind", 0, 1).due(1108, "does", 0, 0);
    }

    @Edge(of = "Terms", says = "duellist: half of as inmate (cut).")
    static void t1_aHalfIsCut() {
        Run x = told("duellist in 0 grace 0;", 1);
        int[][] riteAndNeeds = {{0, 0}, {1, 0}, {2, 1}, {3, 1}, {98, 49}, {99, 49}};
        for (int[] one : riteAndNeeds) {
            x.does("rite", 0, one[0]).due(1000 + one[1], "does", 0, 0);
        }
    }

    @Edge(of = "Terms", says = "nun: as duellist, and how many others are in that ROOM.")
    static void t1_aNunAloneAndWithSeven() {
        Run x = told("nun in 0;rite 0 is 1;", 1);
        x.due(1000, "does", 0, 0);
        for (int others = 1; others < 8; others++) {
            x.does("inmate", 4, 0, 0).due(1000 + others, "does", 0, 0).due(1000 + others, "does", others, 0);
        }
        x.does("bring", 1, 8).does("bring", 2, 1).due(1005, "does", 0, 0);
        // Those OUT are in no ROOM with her.
        x.does("bring", 0, 7).does("rite", 7, 0).due(1000, "does", 0, 0);
    }

    @Edge(of = "Terms", says = "child: as inmate, in even OCCASIONS; else 0.")
    static void t1_aChildInEvenOccasions() {
        Run x = told("child in 0 grace 0;inmate in 0;rite 0 is 99;wait 0 for 1;wait 1 for 0;", 2);
        for (int occasion = 0; occasion < 5; occasion++) {
            x.due(occasion % 2 == 0 ? 1099 : 1000, "does", 0, 0).does("occasions", 1);
        }
    }

    @Edge(of = "Terms", says = "duellist: as inmate, less 3 (so it may be below 0: it gains). nun: as duellist, less DUE. child: 0.")
    static void t1_paysBelow0() {
        Run x = told("duellist in 0 grace 50;nun in 1 grace 50;child in 2 grace 50;burglar in 3;forger in 4;", 5);
        int[][] dueAndPays = {{0, -3, -3, 0, 1, 2}, {2, -1, -3, 0, 3, 6}, {3, 0, -3, 0, 4, 8}, {9, 6, -3, 0, 10, 20}};
        for (int[] one : dueAndPays) {
            x.does("set", 2, one[0]);
            for (int i = 0; i < 5; i++) {
                x.due(1000 + one[i + 1], "does", i, 1);
            }
        }
        x.does("set", 2, 0).does("occasions", 1).due(53, "of", 0, 1).due(53, "of", 1, 1).due(50, "of", 2, 1);
    }

    @Edge(of = "Terms", says = "GAINS (by staying): inmate: EASE. burglar: as inmate. forger: as burglar, less 1.")
    static void t1_gainsBelow0() {
        Run x = told("forger in 0 grace 2;rite 0 is 99;ease 0;", 1);
        x.due(999, "does", 0, 2).does("occasions", 1).due(1, "of", 0, 1).does("occasions", 1).due(0, "of", 0, 1);
        x.does("occasions", 1).due(0, "of", 0, 1).does("set", 1, 1).due(1000, "does", 0, 2);
        x.does("set", 1, 9).due(1008, "does", 0, 2);
        // A nun gains 20 at most, a child 18, a duellist 11; the least are 2, 0, 2.
        x.does("set", 0, 9).does("mind", 0, 4).due(1020, "does", 0, 2).does("mind", 0, 5).due(1018, "does", 0, 2);
        x.does("mind", 0, 2).due(1011, "does", 0, 2).does("set", 0, 0).does("set", 1, 0).due(1002, "does", 0, 2);
        x.does("mind", 0, 4).due(1002, "does", 0, 2).does("mind", 0, 5).due(1000, "does", 0, 2);
    }

    @Edge(of = "Terms", says = "AN OCCASION: each of INMATES that isn't OUT, by numbers")
    static void t1_thoseOutStayAsTheyAre() {
        Run x = told("nun in 0;child in 0;inmate in 0;", 3);
        x.does("bring", 0, 8).does("bring", 1, 8).does("occasions", 60);
        x.due(5, "of", 0, 1).due(8, "of", 0, 2).due(5, "of", 1, 1).due(8, "of", 1, 2).due(8, "of", 2, 2);
    }

    @Edge(of = "Terms", says = "if it isn't HELD then, and its GRACE is what it NEEDS or more")
    static void t1_graceIsWhatItNeedsOrMore() {
        Run x = told("inmate in 0 grace 9;inmate in 1 grace 10;inmate in 2 grace 11;inmate in 3 grace 99;inmate in 3 grace 0;"
            + "wait 3 for 4;", 5);
        x.does("rite", 4, 0).does("bring", 4, 3).does("occasions", 1);
        x.due(0, "of", 0, 2).due(12, "of", 0, 1).due(2, "of", 1, 2).due(8, "of", 1, 1).due(3, "of", 2, 2)
            .due(9, "of", 2, 1);
        // HELD, whatever GRACE it has.
        x.due(3, "of", 3, 2).due(99, "of", 3, 1);
        // What it NEEDS may be 0 or below it.
        x = told("inmate in 0 grace 0;forger in 1 grace 99;rite 0 is 0;rite 1 is 0;strict 0;", 2);
        x.does("occasions", 1).due(1, "of", 0, 2).due(2, "of", 1, 2);
    }

    @Edge(of = "Terms", says = "it goes on to the next ROOM (or gets OUT), GRACE is what it PAYS less (held to 0 to 99)")
    static void t1_paysAreHeldTo0To99() {
        // DUE 2 from 1, 2, 3; DUE 2 of a nun is 3 more, from 95, 96, 97.
        Run x = told("inmate in 0 grace 1;inmate in 0 grace 2;inmate in 7 grace 3;nun in 1 grace 95;nun in 2 grace 96;"
            + "nun in 7 grace 97;nun in 3 grace 99;rite 0 is 0;rite 7 is 0;", 7);
        x.due(2, "occasions", 1);
        int[] rooms = {1, 1, 8, 2, 3, 8, 4};
        int[] graces = {0, 0, 1, 98, 99, 99, 99};
        for (int i = 0; i < 7; i++) {
            x.due(rooms[i], "of", i, 2).due(graces[i], "of", i, 1);
        }
    }

    @Edge(of = "Terms", says = "else GRACE is what it GAINS more (likewise).")
    static void t1_gainsAreHeldTo0To99() {
        // EASE 3 to 98, 99, and beyond; a forger's EASE 0 is 1 less: to 0, and beyond.
        Run x = told("inmate in 0 grace 95;inmate in 0 grace 96;inmate in 0 grace 97;inmate in 0 grace 98;rite 0 is 99;", 4);
        x.does("occasions", 1).due(98, "of", 0, 1).due(99, "of", 1, 1).due(99, "of", 2, 1).due(99, "of", 3, 1);
        x = told("forger in 0 grace 2;forger in 0 grace 1;forger in 0 grace 0;rite 0 is 99;ease 0;", 3);
        x.does("occasions", 1).due(1, "of", 0, 1).due(0, "of", 1, 1).due(0, "of", 2, 1);
    }

    @Edge(of = "Terms", says = "OCCASION is 1 more.")
    static void t1_occasionIs1MoreEvenWithNobody() {
        new Run().does("occasions", 60).due(60, "state", 0).does("occasion").due(61, "state", 0);
    }

    // ---- Terms 2 ----

    @Edge(of = "Terms", says = "What is asked here is TRIED; nothing changes.")
    static void t2_nothingChangesByWhatIsTried() {
        Run x = Run.busyFed(8).does("bring", 7, 0).does("await", 1, 3).does("await", 3, 1).does("bring", 3, 1);
        // 1 and 3 wait for one another, so nothing is in time; then 1 doesn't (0, that waits for it, comes to it).
        x.still(1, "where", 1, 60).still(NONE, "leaves", 1).still(NONE, "empty").still(NONE, "passes", 1, 8);
        x.still(10, "knot", 1).still(2, "rudeFor", 1, 40).still(NONE, "graceFor", 1, 40).still(0, "kindFor", 1);
        x.still(NONE, "riteFor", 1).still(NONE, "hostFor", 1).still(0, "passes", 0, 0);
        x.does("excuse", 1).still(0, "hostFor", 1).still(1, "state", 4);
        for (String name : List.of("leaves", "knot", "kindFor", "riteFor", "hostFor", "judge")) {
            for (int one = 0; one < 8; one++) {
                x.still(name, one);
            }
        }
        x.still("luck", 30).still("fits", 0, 0, 0).still("fits", 2, 5, 1).still("odds", 8, 4, 0).still("hope", 99, 1);
    }

    @Edge(of = "Terms", says = "WHERE of one by n: its ROOM behind n OCCASIONS (8: OUT).")
    static void t2_whereBehind0IsNowAnd8IsOut() {
        Run x = told("inmate in 7 grace 39;inmate in 0 grace 0;" + SLOW, 2);
        x.due(7, "where", 0, 0).due(7, "where", 0, 59).due(8, "where", 0, 60).due(0, "where", 1, 0);
        x.does("bring", 0, 8).due(8, "where", 0, 0).due(8, "where", 0, 60);
    }

    @Edge(of = "Terms", says = "LEAVES: behind the fewest OCCASIONS (0 to 60) it is OUT first.")
    static void t2_leaves0To60() {
        Run x = told("inmate in 7 grace 39;" + SLOW, 1);
        x.due(60, "leaves", 0).does("grace", 0, 38).still(NONE, "leaves", 0);
        x.does("grace", 0, 98).due(1, "leaves", 0).does("bring", 0, 8).due(0, "leaves", 0);
    }

    @Edge(of = "Terms", says = "EMPTY: behind the fewest (0 to 60) all are first.")
    static void t2_empty0To60() {
        Run x = new Run().due(0, "empty");
        x.text("inmate in 7 grace 39;inmate in 7 grace 98;" + SLOW, 2);
        x.due(60, "empty").does("grace", 0, 38).still(NONE, "empty");
        x.does("bring", 0, 8).due(1, "empty").does("bring", 1, 8).due(0, "empty");
    }

    @Edge(of = "Terms", says = "PASSES of one and a ROOM: behind the fewest (0 to 60) it is in that, or farther, first.")
    static void t2_passes0To60OrFarther() {
        Run x = told("inmate in 6 grace 39;ease 1;due 0;rite 6 is 98;rite 7 is 98;", 1);
        x.due(0, "passes", 0, 0).due(0, "passes", 0, 5).due(0, "passes", 0, 6).due(60, "passes", 0, 7);
        x.still(NONE, "passes", 0, 8).does("grace", 0, 40).due(59, "passes", 0, 7).due(60, "passes", 0, 8);
        x.does("grace", 0, 38).still(NONE, "passes", 0, 7).does("bring", 0, 8).due(0, "passes", 0, 8)
            .due(0, "passes", 0, 7);
    }

    @Edge(of = "Terms", says = "as a set (0, if one comes to one that WAITS for nobody).")
    static void t2_knotFromNoneToAll() {
        Run x = told("nun in 0;nun in 0;nun in 0;nun in 0;nun in 0;nun in 0;nun in 0;nun in 0;", 8);
        x.due(0, "knot", 0).due(0, "knot", 7);
        for (int i = 0; i < 7; i++) {
            x.does("await", i, i + 1);
        }
        x.due(0, "knot", 0).due(0, "knot", 6).due(0, "knot", 7);
        // Two at the end of a way of six, then all eight; OUT or not counts nothing.
        x.does("await", 7, 6).due(192, "knot", 0).due(192, "knot", 5).due(192, "knot", 6).due(192, "knot", 7);
        x.does("await", 7, 0).does("bring", 3, 8).due(255, "knot", 0).due(255, "knot", 7);
        x.does("excuse", 7).due(0, "knot", 0).due(0, "knot", 7);
    }

    @Edge(of = "Terms", says = "RUDE FOR one, n: the set of fewest INMATES such that, if these WAIT for nobody from now on, it is OUT behind n OCCASIONS; of several the least.")
    static void t2_rudeForFromNoneToEight() {
        // The empty set: it isn't held, or OUT already.
        Run x = told("inmate in 7 grace 98;inmate in 7 grace 98;wait 1 for 0;" + SLOW, 2);
        x.due(0, "rudeFor", 0, 1).due(0, "rudeFor", 1, 1).does("bring", 1, 8).due(0, "rudeFor", 1, 0);
        // Of several of one the least; of one (4) and of two (0 and 1, the number 3) the fewest.
        x = told("inmate in 7 grace 50;inmate in 7 grace 50;inmate in 7 grace 50;inmate in 7 grace 50;nun in 7 grace 8;"
            + "nun in 7 grace 0;wait 0 for 5;wait 1 for 5;wait 2 for 5;wait 3 for 2;", 6);
        x.due(4, "rudeFor", 4, 1).does("await", 3, 5).due(3, "rudeFor", 4, 1);
        // All seven others must be gone before the nun's turn: each waits for her.
        x = told("nun in 7 grace 50;".repeat(7) + "nun in 7 grace 0;rite 7 is 0;", 8);
        for (int i = 0; i < 7; i++) {
            x.does("await", i, 7);
        }
        x.due(127, "rudeFor", 7, 1).does("grace", 7, 1).due(63, "rudeFor", 7, 1).does("grace", 7, 7)
            .due(0, "rudeFor", 7, 1);
        // And herself: from 6 she goes if all others have, in 7 she waits for the one that has no GRACE (RITE 4: 2 and 1).
        x = told("inmate in 6 grace 50;".repeat(6) + "inmate in 6 grace 0;nun in 6 grace 0;rite 6 is 0;", 8)
            .does("rite", 7, 4);
        for (int i = 0; i < 7; i++) {
            x.does("await", i, 7);
        }
        x.does("set", 1, 0).does("await", 7, 6).due(255, "rudeFor", 7, 2).does("excuse", 7).due(127, "rudeFor", 7, 2);
    }

    @Edge(of = "Terms", says = "GRACE FOR one, n: the least GRACE (0 to 99) of it now with which it is OUT behind n OCCASIONS.")
    static void t2_graceFor0To99() {
        Run x = told("inmate in 7 grace 50;rite 7 is 99;", 1);
        x.due(99, "graceFor", 0, 1).does("mind", 0, 1).does("set", 0, 0).due(99, "graceFor", 0, 1);
        x.does("set", 0, 1).still(NONE, "graceFor", 0, 1);
        x.does("mind", 0, 0).does("rite", 7, 0).due(0, "graceFor", 0, 1).still(NONE, "graceFor", 0, 0);
        x.does("rite", 7, 1).due(1, "graceFor", 0, 1).does("bring", 0, 8).due(0, "graceFor", 0, 0);
    }

    @Edge(of = "Terms", says = "KIND FOR one: the KIND as one of which it LEAVES soonest (not within 60 OCCASIONS: later than all); of several the least.")
    static void t2_kindForAt60AndLater() {
        // It waits for one that leaves in the 60th; behind that, as a duellist (49 of 99) it goes, or as a nun, or child.
        Run x = told("inmate in 7 grace 39;burglar in 7 grace 0;wait 1 for 0;" + SLOW, 2);
        x.due(2, "kindFor", 1);
        // In the 61st: as none within 60, so the least.
        x.does("grace", 0, 38).due(0, "kindFor", 1);
        // As each of them behind 0.
        x.does("bring", 1, 8).due(0, "kindFor", 1);
        // As a child alone, in an odd OCCASION.
        x = told("inmate in 7 grace 0;", 1).does("occasions", 1).does("grace", 0, 0).due(5, "kindFor", 0);
    }

    @Edge(of = "Terms", says = "RITE FOR one: the ROOM which, were its RITE 0 now, makes it LEAVE soonest, sooner than as it is; of several the least.")
    static void t2_riteForAt60AndLater() {
        // With RITE 0 in 7: GRACE 98 behind 58, to 7 in the 59th, OUT in the 60th; as it is in the 61st.
        Run x = told("inmate in 6 grace 40;ease 1;due 0;rite 6 is 98;rite 7 is 99;", 1);
        x.due(NONE, "leaves", 0).due(7, "riteFor", 0);
        x.does("grace", 0, 39).still(NONE, "riteFor", 0);
        // No sooner: OUT already, or every RITE 0 already.
        x.does("bring", 0, 8).still(NONE, "riteFor", 0);
        x = told("inmate in 7 grace 0;rite 7 is 0;", 1).still(NONE, "riteFor", 0);
        x.does("rite", 7, 1).due(7, "riteFor", 0);
        // 6 and 7 alike: the least. One gain (3) for each RITE above GRACE.
        x = told("inmate in 6 grace 0;due 3;rite 6 is 3;rite 7 is 3;", 1).due(4, "leaves", 0).due(6, "riteFor", 0);
        // The first and the last ROOM.
        x = told("inmate in 0 grace 9;due 0;rite 1 is 9;rite 2 is 9;rite 3 is 9;rite 4 is 9;"
            + "rite 5 is 9;rite 6 is 9;rite 7 is 9;", 1);
        x.due(0, "riteFor", 0).does("rite", 7, 99).due(7, "riteFor", 0);
    }

    @Edge(of = "Terms", says = "HOST FOR one: the one for whom, WAITED for by it now, it LEAVES latest, later than as it is (not within 60: later than all); of several the least.")
    static void t2_hostForAt60AndLater() {
        // 0 leaves in the first; waiting for 1 (in the 58th) in the 59th, for 2 (in the 59th) in the 60th.
        Run x = told("inmate in 7 grace 98;inmate in 7 grace 41;inmate in 7 grace 40;" + SLOW, 3);
        x.due(2, "hostFor", 0).does("await", 0, 1).due(59, "leaves", 0).does("await", 0, 2).due(60, "leaves", 0);
        // In the 60th already: no later within 60, but with 1 in the 61st, which is not within it.
        x.still(NONE, "hostFor", 0).does("grace", 1, 39).due(1, "hostFor", 0);
        // Not within 60 as it is: nothing is later.
        x.does("await", 0, 1).due(NONE, "leaves", 0).still(NONE, "hostFor", 0);
        // Both not within 60: the least.
        x.does("excuse", 0).does("grace", 2, 0).due(1, "hostFor", 0);
        x.does("bring", 0, 8).still(NONE, "hostFor", 0);
        // The eighth may be it; nobody else is there: none is.
        x = new Run().does("inmate", 0, 50, 7).still(NONE, "hostFor", 0);
        for (int i = 1; i < 8; i++) {
            x.does("inmate", 0, 50, i == 7 ? 7 : 0);
        }
        x.due(7, "hostFor", 0);
    }

    @Edge(of = "Terms", says = "CROWD: the ROOM in which most are, of several the least (8, if nobody is in any).")
    static void t2_crowdFrom0To8() {
        Run x = new Run().due(8, "state", 4);
        x.does("inmate", 0, 0, 7).due(7, "state", 4).does("inmate", 0, 0, 0).due(0, "state", 4);
        x.does("inmate", 0, 0, 7).due(7, "state", 4);
        x.does("bring", 0, 8).does("bring", 2, 8).due(0, "state", 4).does("bring", 1, 8).due(8, "state", 4);
    }

    @Edge(of = "Terms", says = {"FITS of one by a SHEET: those numbers (0 to 99) that might be its GRACE now", "(8: OUT; -1: any)."})
    static void t2_fits0To99() {
        Run x = told("inmate in 7 grace 50;ease 1;rite 7 is 99;", 1);
        // A row of none: all hundred.
        x.does("sheet", 0, 2, 0).due(100, "fits", 0, 0, 0).due(0, "fits", 0, 0, 1);
        // OUT behind 1: 99 alone; behind 4, not before, with RITE 3: 0 alone.
        x.does("sheet", 0, 2, 1).does("put", 0, 0, 8).due(1, "fits", 0, 0, 0).due(99, "fits", 0, 0, 1);
        x.does("put", 0, 0, 7).due(99, "fits", 0, 0, 0).due(0, "fits", 0, 0, 1);
        x.does("put", 0, 0, -1).due(100, "fits", 0, 0, 0).does("put", 0, 0, -2).due(0, "fits", 0, 0, 0);
        x.does("put", 0, 0, 9).due(0, "fits", 0, 0, 0).still(NONE, "fits", 0, 0, 1);
        x.does("put", 0, 0, LEAST).due(0, "fits", 0, 0, 0).does("put", 0, 0, MOST).due(0, "fits", 0, 0, 0);
        x.does("rite", 7, 3).does("sheet", 0, 3, 4).does("put", 0, 0, 7).does("put", 0, 1, 7).does("put", 0, 2, 7);
        x.does("put", 0, 3, 8).due(1, "fits", 0, 0, 0).due(0, "fits", 0, 0, 1);
        // Forty OCCASIONS: OUT in the 40th, from 59 of 98.
        x.does("rite", 7, 98).does("sheet", 0, 0, 40);
        for (int i = 0; i < 39; i++) {
            x.does("put", 0, i, i == 38 ? 7 : -1);
        }
        x.does("put", 0, 39, 8).due(1, "fits", 0, 0, 0).due(59, "fits", 0, 0, 1);
        // One that is OUT stays OUT.
        x.does("bring", 0, 8).does("put", 0, 38, 8).due(100, "fits", 0, 0, 0).does("put", 0, 38, 7)
            .due(0, "fits", 0, 0, 0);
    }

    @Edge(of = "Terms", says = "ODDS by n, k: that of n days just k have a sneeze, each by SNEEZE of a hundred. HOPE by n: how many have on average.")
    static void t2_oddsOfNoneAndAll() {
        Run x = new Run().due(1, "odds", 0, 0, 0).due(1, "odds", 0, 0, 1);
        x.due(256, "odds", 4, 0, 0).due(625, "odds", 4, 0, 1).due(1, "odds", 4, 4, 0).due(625, "odds", 4, 4, 1);
        // 99 ^ 8 by 100 ^ 8, the longest; and 1 by 100 ^ 8.
        x.does("set", 3, 99).due(9227446944279201L, "odds", 8, 8, 0).due(10000000000000000L, "odds", 8, 8, 1);
        x.due(1, "odds", 8, 0, 0).due(10000000000000000L, "odds", 8, 0, 1);
        x.due(9801, "hope", 99, 0).due(100, "hope", 99, 1).does("set", 3, 0).due(0, "odds", 1, 1, 0)
            .due(1, "odds", 1, 0, 0);
    }

    @Edge(of = "Terms", says = "DRAWS: z (an int; 1 at first) becomes z * 1103515245 + 12345; z >>> 16 is drawn.")
    static void t2_drawsWrap() {
        new Run().due(1, "seed", 1);
        // Two draws each; the numbers are worked out modulo 2 ^ 32.
        long[][] zAndBehind = {{0, -740551042}, {1, -1770082073}, {-1, 288979989}, {MOST, -1858503659}, {LEAST, 1406932606}};
        for (long[] one : zAndBehind) {
            Run x = told("inmate in 0;", 1).does("seed", one[0]);
            x.does("occasion").due(one[1], "seed", 1);
        }
        // From 2 the first draw is 33676, of a z below 0: it leaves 4 by 8; the second, 22817, leaves 17 by a hundred.
        Run x = told("inmate in 0 grace 0;".repeat(8) + "sneeze 18;", 8);
        x.does("seed", 2).does("occasion").due(16, "room", 1, 1).due(1495354192, "seed", 1);
    }

    @Edge(of = "Terms", says = "AN OCCASION BY DRAWS: if there are INMATES, a draw")
    static void t2_noDrawsIfNobodyIsThere() {
        Run x = new Run().does("seed", 77).due(0, "occasion").due(77, "seed", 77).due(1, "state", 0).due(0, "luck", 30);
        // With all OUT there are two draws, and nobody goes on.
        x.does("inmate", 0, 0, 0).does("bring", 0, 8).does("set", 3, 99).does("seed", 1);
        x.due(1, "occasion").due(-1770082073, "seed", 1).due(8, "of", 0, 2);
    }

    @Edge(of = "Terms", says = "if what that leaves by 100 is below SNEEZE, and it isn't OUT, it goes on to the next ROOM (or gets OUT) at once, GRACE stays; then an OCCASION.")
    static void t2_belowSneeze() {
        // From z 1 the second draw is 38526: it leaves 26 by a hundred.
        Run x = told("inmate in 6 grace 0;sneeze 26;", 1).does("seed", 1).due(0, "occasion").due(6, "of", 0, 2);
        x = told("inmate in 6 grace 0;sneeze 27;", 1).does("seed", 1).due(0, "occasion").due(7, "of", 0, 2)
            .due(3, "of", 0, 1);
        x = told("inmate in 7 grace 9;sneeze 27;", 1).does("seed", 1).due(1, "occasion").due(8, "of", 0, 2)
            .due(9, "of", 0, 1);
        // At once, and then the OCCASION: from 6 it gets OUT.
        x = told("inmate in 6 grace 10;sneeze 27;", 1).does("seed", 1).due(1, "occasion").due(8, "of", 0, 2)
            .due(8, "of", 0, 1);
        // SNEEZE 0: never, whatever is drawn.
        x = told("inmate in 7 grace 0;sneeze 0;ease 0;", 1);
        for (int z = 0; z < 50; z++) {
            x.does("seed", z).due(0, "occasion");
        }
    }

    @Edge(of = "Terms", says = "more are OUT than behind an OCCASION (nothing changes, z neither).")
    static void t2_luckChangesNothing() {
        Run x = Run.busyFed(3).does("bring", 1, 7);
        x.still("luck", 1).still("luck", 30);
        // It gets OUT by itself: no more are OUT by a sneeze.
        x = told("inmate in 7 grace 10;sneeze 99;", 1).still(0, "luck", 30).does("grace", 0, 9).still(1, "luck", 1);
        x.does("set", 3, 0).still(0, "luck", 30);
    }

    @Edge(of = "Terms", says = "THE TAPE takes bytes, 200 at most; gaol() uses it up.")
    static void t2_tapeTakes200() {
        Run x = Run.busy(2).feed(" ".repeat(199)).due(199, "many", 5).still(FULL, "feed", BLANKS, 2);
        x.due(200, "feed", BLANKS, 1).still(FULL, "feed", BLANKS, 1).due(0, "gaol").due(0, "many", 5);
        // The 200th byte is read, too.
        new Run().text(" ".repeat(191) + "nun in 3;", 1).fault(200, " ".repeat(192) + "nun in 3");
    }

    @Edge(of = "Terms", says = "TEXT: { KIND in N [ grace N ] ; |")
    static void t2_textOfNothing() {
        new Run().text("", 0).text(" ", 0).fault(0, ";").fault(1, " ;").fault(9, "nun in 3;;");
    }

    @Edge(of = "Terms", says = "one more in a ROOM; GRACE (5 without).")
    static void t2_textInmateInRoom0To7WithGrace0To99() {
        Run x = Run.busy(1).fault(7, "nun in 8;").fault(7, "nun in 10;").fault(7, "nun in 999;");
        x.fault(15, "nun in 7 grace 100;").fault(15, "nun in 7 grace 999;").fault(7, "nun in -1;")
            .fault(15, "nun in 7 grace -1;");
        x.text("nun in 0 grace 0;child in 7 grace 99;burglar in 7;", 3);
        x.due(0, "of", 0, 1).due(99, "of", 1, 1).due(5, "of", 2, 1).due(0, "of", 0, 2).due(7, "of", 1, 2)
            .due(7, "of", 2, 2);
    }

    @Edge(of = "Terms", says = "rite: of a ROOM.")
    static void t2_textRiteOfRoom0To7Is0To99() {
        Run x = Run.busy(1).fault(5, "rite 8 is 10;").fault(10, "rite 7 is 100;").fault(5, "rite -1 is 1;")
            .fault(10, "rite 0 is -1;");
        x.text("rite 0 is 0;rite 7 is 99;", 0).due(0, "room", 0, 0).due(99, "room", 7, 0).due(10, "room", 6, 0);
    }

    @Edge(of = "Terms", says = "wait: one there by then WAITS for another one there by then.")
    static void t2_textWaitForOneThereByThen() {
        String two = "nun in 0;nun in 0;";
        Run x = Run.busy(3).fault(5, "wait 0 for 1;").fault(5, "wait 0 for 1;" + two)
            .fault(14, "nun in 0;wait 1 for 0;nun in 0;");
        x.fault(20, "nun in 0;wait 0 for 1;nun in 0;").fault(23, two + "wait 2 for 0;")
            .fault(29, two + "wait 0 for 2;");
        x.fault(29, two + "wait 0 for 0;").fault(29, two + "wait 1 for 1;").fault(29, two + "wait 1 for 001;");
        x.text(two + "wait 0 for 1;wait 1 for 0;", 2).due(2, "of", 0, 3).due(1, "of", 1, 3);
        x.text(two + two + two + two + "wait 7 for 6;wait 6 for 7;wait 6 for 0;", 8).due(7, "of", 7, 3)
            .due(1, "of", 6, 3);
    }

    @Edge(of = "Terms", says = "The others: the LAW.")
    static void t2_textLaws0To9AndSneeze0To99() {
        Run x = Run.busy(1).fault(7, "strict 10;").fault(5, "ease 10;").fault(4, "due 10;").fault(7, "sneeze 100;");
        x.text("strict 9;ease 9;due 9;sneeze 99;", 0).due(9, "lawOf", 0).due(9, "lawOf", 1).due(9, "lawOf", 2)
            .due(99, "lawOf", 3);
        x.text("strict 0;ease 0;due 0;sneeze 0;", 0).due(0, "lawOf", 0).due(0, "lawOf", 1).due(0, "lawOf", 2)
            .due(0, "lawOf", 3);
    }

    @Edge(of = "Terms", says = "It is all by it alone (what it doesn't tell is as at first); z stays.")
    static void t2_whatATextDoesNotTellIsAsAtFirst() {
        Run x = Run.busy(8).text("", 0).due(2, "lawOf", 0).due(3, "lawOf", 1).due(2, "lawOf", 2).due(20, "lawOf", 3);
        x.due(80, "state", 5).due(0, "state", 0).due(0, "many", 0).due(0, "many", 2).due(99, "seed", LEAST);
        x.text("nun in 1;", 1).due(LEAST, "seed", 1).due(0, "of", 0, 3);
    }

    @Edge(of = "Terms", says = "NAMES are rows of letters a to z")
    static void t2_namesAreOfLettersAToZ() {
        // The bytes beside a and z: 96 and 123; great letters; letters of more than seven bits.
        new Run().fault(0, "`nun in 3;").fault(3, "nun{in 3;").fault(0, "Nun in 3;").fault(0, "nUn in 3;");
        new Run().fault(0, "nu" + (char) 238 + " in 3;").fault(3, "nun" + (char) 225 + "in 3;").fault(3, "nun@in 3;");
        new Run().fault(0, "azaz in 3;").fault(0, "zzz;").fault(0, "inmat in 3;").fault(0, "inmatee in 3;");
    }

    @Edge(of = "Terms", says = "NUMBERS rows of digits (1 to 3)")
    static void t2_numbersOf1To3Digits() {
        new Run().text("nun in 3;nun in 03;nun in 003;", 3).due(7, "room", 3, 1);
        new Run().fault(7, "nun in 0003;").fault(7, "nun in 00000000003;").fault(7, "nun in 4294967299;")
            .fault(7, "nun in ;");
        // The bytes beside 0 and 9: 47 and 58.
        new Run().fault(7, "nun in /;").fault(7, "nun in :;").fault(8, "nun in 3:;").fault(8, "nun in 3/;");
        new Run().text("rite 7 is 099;rite 6 is 000;strict 009;", 0).due(99, "room", 7, 0).due(0, "room", 6, 0)
            .due(9, "lawOf", 0);
        new Run().fault(10, "rite 7 is 0099;").fault(7, "strict 0009;").fault(10, "rite 7 is 1000;");
        // 200 bytes of one NUMBER.
        new Run().fault(7, "strict " + "9".repeat(193)).fault(0, "9".repeat(200));
    }

    @Edge(of = "Terms", says = "both as long as they go")
    static void t2_namesAndNumbersAsLongAsTheyGo() {
        new Run().fault(0, "nunin 3;").fault(0, "inmates in 3;").fault(9, "nun in 3 graceful 5;")
            .fault(4, "nun inn 3;");
        new Run().fault(0, "n un in 3;").fault(7, "rite 7 i s 3;").fault(0, "a".repeat(200));
        new Run().text("rite3is4;nun in5grace6;", 1).due(4, "room", 3, 0).due(6, "of", 0, 1);
    }

    @Edge(of = "Terms", says = "blanks (32) part them, and stand elsewhere as one likes.")
    static void t2_blanksAre32Alone() {
        new Run().text("  nun   in   3   grace   7   ;   strict    5    ;   ", 1).due(7, "of", 0, 1).due(5, "lawOf", 0);
        for (int other : new int[] {0, 9, 10, 13, 31, 33, 127, 160, 255}) {
            new Run().fault(3, "nun" + (char) other + "in 3;").fault(9, "nun in 3;" + (char) other)
                .fault(0, "" + (char) other);
        }
        // Within a NAME or NUMBER they part it.
        new Run().fault(9, "strict 1 0;").fault(4, "nun i n 3;");
    }

    @Edge(of = "Terms", says = "FAULT: the place (from 0) of the first byte of the first NAME, NUMBER or other byte that can't stand there or is not as told")
    static void t2_faultIsTheFirstOne() {
        new Run().fault(0, "3").fault(0, "in").fault(1, " in").fault(3, "nun;").fault(4, "nun 3").fault(4, "nun grace");
        new Run().fault(6, "nun in;").fault(7, "nun in in").fault(9, "nun in 3 4").fault(9, "nun in 3 nun")
            .fault(14, "nun in 3 grace;");
        new Run().fault(17, "nun in 3 grace 5 grace 6;").fault(4, "rite;").fault(7, "rite 3 4")
            .fault(7, "rite 3 for 4;");
        new Run().fault(9, "rite 3 is;").fault(12, "rite 3 is 4 5;").fault(6, "strict;").fault(7, "strict strict")
            .fault(9, "strict 1 is");
        // Two faults: the first.
        new Run().fault(7, "nun in 8 grace 100;").fault(9, "nun in 3;x in 9;").fault(5, "wait 0 is 0;");
        new Run().fault(25, "nun in 3;nun in 3;wait 0 is 0;");
    }

    @Edge(of = "Terms", says = "(a NUMBER out of range, of more digits, of nobody, the same as the first one; the NAME of a ninth one)")
    static void t2_faultOfANinthOne() {
        String eight = "nun in 0;".repeat(8);
        Run x = Run.busy(3).fault(72, eight + "nun in 0;").fault(73, eight + " child in 9;")
            .fault(72, eight + "inmate");
        x.text(eight + "due 1;", 8).due(1, "lawOf", 2);
        x.fault(7, "nun in 8;").fault(7, "nun in 0000;").fault(14, "nun in 0;wait 1 for 0;")
            .fault(20, "nun in 0;wait 0 for 0;");
        x.fault(77, eight + "wait 8 for 0;").fault(83, eight + "wait 0 for 8;").text(eight + "wait 7 for 0;", 8)
            .due(1, "of", 7, 3);
    }

    @Edge(of = "Terms", says = "or the end (how many bytes there are), if more must come.")
    static void t2_faultAtTheEnd() {
        String text = "nun in 3 grace 5;";
        // By how many bytes of it there are: the end, or a NAME that is no more whole.
        int[] faults = {-1, 0, 0, 3, 4, 4, 6, 7, 8, 9, 9, 9, 9, 9, 14, 15, 16};
        for (int n = 1; n < text.length(); n++) {
            Run.busy(1).fault(faults[n], text.substring(0, n));
        }
        new Run().text(text, 1).fault(4, "rite").fault(6, "rite 3").fault(9, "rite 3 is").fault(11, "rite 3 is 4");
        new Run().fault(4, "wait").fault(24, "nun in 3;nun in 3;wait 0").fault(28, "nun in 3;nun in 3;wait 0 for");
        new Run().fault(30, "nun in 3;nun in 3;wait 0 for 1").fault(4, "ease").fault(6, "ease 1")
            .fault(10, "ease 1    ");
        // The latest end there is: 200.
        new Run().fault(200, "ease 1" + " ".repeat(194));
    }

    // ---- Terms 3 ----

    @Edge(of = "Terms", says = "ROWS of one: (its ROOM, GRACE, those OUT, as a set) behind 1, 2, .. n OCCASIONS, tried.")
    static void t3_rowsBehind1To10() {
        // EASE 1, RITE 98: from 89 OUT in the 10th; 1 leaves in the first.
        Run x = told("inmate in 7 grace 89;inmate in 7 grace 98;" + SLOW, 2).does("prove", 0, 10);
        x.due(7, "row", 0, 0).due(90, "row", 0, 1).due(2, "row", 0, 2);
        x.due(7, "row", 8, 0).due(98, "row", 8, 1).due(2, "row", 8, 2);
        x.due(8, "row", 9, 0).due(96, "row", 9, 1).due(3, "row", 9, 2).due(-9, "row", 10, 0);
        x.due(7, "of", 0, 2).due(89, "of", 0, 1).due(0, "state", 0);
    }

    @Edge(of = "Terms", says = "ACTS of things, with a number x (ints that wrap): 0 bows, 1 thanks, 2 parts, 3 leaves.")
    static void t3_actsWrap() {
        // Number 1, in ROOM 0 (so parts is by -1), as each KIND: bows, thanks, parts, leaves with each of these.
        int[] with = {MOST, LEAST, 1 << 29, (1 << 28) + 5};
        int[][][] answers = {
            {{-5, -1, MOST, 1073741843}, {-5, -1, MOST, 1073741843},
                {-MOST, LEAST, -536870912, -268435461}, {-177, -181, 2147483467, 1073741991}},
            {{-5, -1, MOST, 1073741843}, {-10, -2, -2, -2147483610},
                {-MOST, LEAST, -536870912, -268435461}, {-190, -182, -182, -2147483502}},
            {{-6, -2, 2147483646, 1073741842}, {-6, -2, 2147483646, 1073741842},
                {-MOST, LEAST, -536870912, -268435461}, {-179, -183, 2147483465, 1073741989}},
            {{3, 7, -2147483641, 1073741851}, {6, 14, 14, -2147483594},
                {-2147483646, MOST, -1610612737, -805306384}, {178, 186, 186, -2147483518}},
            {{6, 2, -2147483646, -1073741842}, {4, 0, LEAST, -1073741844},
                {-MOST, LEAST, -536870912, -268435461}, {175, 179, -2147483469, -1073741993}},
            {{-5, -1, MOST, 1073741843}, {-5, -1, MOST, 1073741843},
                {-2147483644, -2147483645, -536870909, -268435458}, {2147483472, 2147483467, 1610612555, 805306530}}};
        for (int kind = 0; kind < 6; kind++) {
            Run x = told("nun in 0;nun in 0;", 2).does("shelf", 0, 0, 1).does("mind", 1, kind);
            for (int act = 0; act < 4; act++) {
                for (int k = 0; k < 4; k++) {
                    x.due(answers[kind][act][k], "act", 0, act, with[k]);
                }
            }
        }
    }

    @Edge(of = "Terms", says = "One of the INMATES is held as a thing of the KIND; n: the number, a: its ROOM (8: OUT).")
    static void t3_aIs8ForOneThatIsOut() {
        Run x = told("inmate in 7;", 1).does("shelf", 0, 0, 0);
        x.due(7, "act", 0, 1, 0).due(2, "act", 0, 2, 16).does("bring", 0, 8).due(8, "act", 0, 1, 0)
            .due(2, "act", 0, 2, 16);
        x.due(2, "act", 0, 2, 23).due(3, "act", 0, 2, 24);
    }

    @Edge(of = "Terms", says = "12 parts: x by (a - n), cut (-15 if these are the same; that is all that act() answers then).")
    static void t3_partsByTheSame() {
        for (int n = 0; n < 8; n++) {
            Run x = told("nun in 0;nun in 0;nun in 0;nun in 0;nun in 0;nun in 0;nun in 0;nun in 0;", 8)
                .does("shelf", 0, 0, n);
            // inmate, burglar, child, forger part; duellist and nun part as they leave; the others don't.
            int[][] kindAndActs = {{0, 2}, {1, 2}, {2, 2, 3}, {3, 2}, {4, 2, 3}, {5, 2}};
            for (int room = Math.max(0, n - 1); room <= n + 1; room++) {
                x.does("bring", n, room);
                for (int[] one : kindAndActs) {
                    x.does("mind", n, one[0]);
                    for (int k = 1; k < one.length; k++) {
                        boolean isStuck = x.answer("act", 0, one[k], 1000000) == -15;
                        Due.is("-15 of " + n + " as " + one[0] + " in " + room, isStuck ? 1 : 0, room == n ? 1 : 0);
                    }
                }
            }
        }
    }

    @Edge(of = "Terms", says = "THE TRACE: numbers of the bodies that ran in the latest act(), as they began (left first); the first 30 are kept.")
    static void t3_traceOfTheLongestAct() {
        // The longest there is: a nun's leaving, eleven bodies.
        Run x = told("nun in 1;", 1).does("shelf", 0, 0, 0).does("act", 0, 3, 7).due(11, "many", 6);
        int[] bodies = {31, 13, 41, 11, 40, 30, 10, 40, 30, 10, 12};
        for (int i = 0; i < 11; i++) {
            x.due(bodies[i], "trace", i);
        }
        x.outside(NONE, 0, 0, 10, "trace", 0);
        // Parted by 0: those that began, to 12.
        x.does("mind", 0, 5).does("bring", 0, 0).due(-15, "act", 0, 2, 1).due(2, "many", 6).due(61, "trace", 0)
            .due(12, "trace", 1);
        x.still(NONE, "trace", 2);
    }

    @Edge(of = "Terms", says = "SHEETS 0 to 3 are rows of bytes (sort 0), shorts (1), ints (2) or longs (3), 40 at most, or missing (at first).")
    static void t3_sheets0To3Of40() {
        Run x = new Run();
        for (int sheet = 0; sheet < 4; sheet++) {
            x.still(-11, "item", sheet, 0, 0).due(1, "sheet", sheet, sheet, 40).due(0, "item", sheet, sheet, 39);
            x.still(-12, "item", sheet, sheet, 40).still(BAD, "sheet", sheet, sheet, 41);
        }
        x.outside(BAD, 0, 0, 3, "sheet", 0, 0, 1).outside(BAD, 1, -1, 3, "sheet", 0, 0, 1);
    }

    @Edge(of = "Terms", says = {"SHELVES 0 to 3 hold one of the INMATES (by its number; nothing, if there is no such one at the time), a SHEET's row",
        "or nothing (at first)."})
    static void t3_shelves0To3AndNobodyAtTheTime() {
        Run x = told("nun in 0;nun in 0;", 2).does("keep");
        for (int shelf = 0; shelf < 4; shelf++) {
            x.still(-11, "taken", shelf, 0).due(0, "act", shelf, 0, 0).due(1, "shelf", shelf, 0, 1)
                .due(1, "taken", shelf, 4);
        }
        x.outside(BAD, 0, 0, 3, "shelf", 0, 0, 0).outside(BAD, 0, 0, 3, "taken", 0, 0);
        // One comes, then the number 1 is of nobody, then of another one, then of the nun again.
        x.text("child in 0;", 1).still(-11, "taken", 3, 0).still(-11, "taken", 3, 10).due(0, "act", 3, 0, 1)
            .due(0, "many", 6);
        x.does("inmate", 1, 0, 0).due(1, "taken", 3, 1).still(-13, "taken", 3, 4).does("again").due(1, "taken", 3, 4);
    }
}
