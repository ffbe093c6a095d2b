/** Each promise of the document with answers worked out by hand: the ordinary, the edges, the wrong inputs. */
public final class PromisesTest {
    private static final int BAD = -1, FULL = -2, NONE = -3;

    public static void main(String[] args) {
        newObject();
        tape();
        texts();
        faults();
        laws();
        inmates();
        needsPaysGains();
        changes();
        rooms();
        occasions();
        turns();
        draws();
        luck();
        states();
        tried();
        knots();
        rude();
        graceFor();
        kindRiteHost();
        fits();
        odds();
        rows();
        minds();
        sheets();
        shelves();
        acts();
        stuckActs();
        many();
        kept();
        Due.end();
    }

    private static void due(String call, long got, long want) {
        Due.is(call, got, want);
    }

    private static MannersGaol told(String text) {
        MannersGaol x = new MannersGaol();
        Due.feed(x, text);
        if (x.gaol() < 0) {
            Due.is("a gaol told in: " + text, -1, 0);
        }
        return x;
    }

    private static int answerTo(String text) {
        MannersGaol x = new MannersGaol();
        Due.feed(x, text);
        return x.gaol();
    }

    // Promise 1
    private static void newObject() {
        MannersGaol x = new MannersGaol();
        for (int what = 0; what <= 6; what++) {
            due("1 many(" + what + ")", x.many(what), 0);
        }
        due("1 again", x.again(), NONE);
        due("1 seed", x.seed(5), 1);
        due("1 of", x.of(0, 0), BAD);
        due("1 rites", x.state(5), 80);
        due("1 occasion", x.state(0), 0);
        for (int i = 0; i < 4; i++) {
            due("1 sheet missing", x.put(i, 0, 0), -11);
            due("1 shelf empty", x.taken(i, 0), -11);
        }
        due("1 constants", MannersGaol.BAD * 100 + MannersGaol.FULL * 10 + MannersGaol.NONE, -123);
    }

    // Promise 2
    private static void tape() {
        MannersGaol x = new MannersGaol();
        due("2 n 0", x.feed(0, 0), BAD);
        due("2 n 9", x.feed(0, 9), BAD);
        due("2 n -1", x.feed(0, -1), BAD);
        due("2 none came", x.many(5), 0);
        for (int i = 1; i <= 24; i++) {
            due("2 feed", x.feed(0x2020202020202020L, 8), 8 * i);
        }
        due("2 to 199", x.feed(0x2020202020202020L, 7), 199);
        due("2 full", x.feed(0x2020L, 2), FULL);
        due("2 bad before full", x.feed(0x2020L, 9), BAD);
        due("2 still 199", x.many(5), 199);
        due("2 200", x.feed(32, 1), 200);
        due("2 full at 200", x.feed(32, 1), FULL);
        due("3 blanks alone", x.gaol(), 0);
        due("3 used up", x.many(5), 0);
        due("2 from the start", x.feed(59, 1), 1);
        due("3 fault at 0", x.gaol(), -100);
        due("3 used up by a fault", x.many(5), 0);
        // The lowest byte first: "nun in 7;" in two parts.
        due("2 low first", x.feed(0x37206e69206e756eL, 8), 8);
        due("2 high bytes left", x.feed(0x7f7f3b20L, 2), 10);
        due("3 read", x.gaol(), 1);
        due("3 nun", x.of(0, 0), 4);
        due("3 in 7", x.of(0, 2), 7);
        due("3 grace 5", x.of(0, 1), 5);
    }

    // Promise 3
    private static void texts() {
        MannersGaol x = new MannersGaol();
        x.seed(77);
        x.set(0, 7);
        x.rite(2, 3);
        x.inmate(1, 2, 3);
        x.inmate(1, 2, 3);
        x.occasions(5);
        x.sheet(0, 0, 3);
        x.shelf(0, 0, 1);
        x.shelf(1, 1, 0);
        x.prove(0, 4);
        x.keep();
        Due.feed(x, "child in 7 grace 99;  wait0for 1;");
        due("3 nobody by then", x.gaol(), -131);
        due("3 refused: inmates", x.many(0), 2);
        due("3 refused: rows", x.many(4), 4);
        due("3 refused: occasion", x.state(0), 5);
        due("3 refused: law", x.lawOf(0), 7);
        Due.feed(x, "child in 7 grace 099;nun in 0;wait 1 for 0;wait 1for 000;ease 9;due0;sneeze 99;strict 4;strict 5;rite 7 is 00;");
        due("3 two", x.gaol(), 2);
        due("3 rows", x.many(4), 0);
        due("3 occasion", x.state(0), 0);
        due("3 z stays", x.seed(77), 77);
        due("3 grace", x.of(0, 1), 99);
        due("3 nun", x.of(1, 0), 4);
        due("3 waits", x.of(1, 3), 1);
        due("3 strict, the later", x.lawOf(0), 5);
        due("3 ease", x.lawOf(1), 9);
        due("3 due", x.lawOf(2), 0);
        due("3 sneeze", x.lawOf(3), 99);
        due("3 rite", x.room(7, 0), 0);
        due("3 rite as at first", x.room(2, 0), 10);
        due("3 sheet stays", x.item(0, 0, 2), 0);
        due("3 shelf stays", x.taken(0, 4), 1);
        due("3 row stays", x.taken(1, 10), 3);
        due("3 kept stays", x.again(), 2);
        due("3 kept law", x.lawOf(0), 7);
        due("3 nothing told", x.gaol(), 0);
        due("3 as at first", x.lawOf(0), 2);
        due("3 no more there", x.taken(0, 0), -11);
        due("3 eight", answerTo("nun in 0;nun in 1;nun in 2;nun in 3;nun in 4;nun in 5;nun in 6;nun in 7;wait 7 for 0;"), 8);
    }

    private static void faults() {
        due("3 blank", answerTo("    "), 0);
        due("3 end", answerTo("inmate"), -106);
        due("3 end behind blanks", answerTo("inmate in   "), -112);
        due("3 end for ;", answerTo("inmate in 3"), -111);
        due("3 end for a number", answerTo("inmate in 3 grace"), -117);
        due("3 no such name", answerTo(" inmates in 3;"), -101);
        due("3 short name", answerTo("inm"), -100);
        due("3 great letter", answerTo("Nun in 3;"), -100);
        due("3 other name", answerTo("nun on 3;"), -104);
        due("3 name for a number", answerTo("nun in in;"), -107);
        due("3 room 8", answerTo("nun in 8;"), -107);
        due("3 four digits", answerTo("nun in 0003;"), -107);
        due("3 many digits", answerTo("nun in 4294967296;"), -107);
        due("3 three digits", answerTo("nun in 003;"), 1);
        due("3 grace 100", answerTo("nun in 3 grace 100;"), -115);
        due("3 grace twice", answerTo("nun in 3 grace 1 grace 2;"), -117);
        due("3 no ;", answerTo("nun in 3 nun in 4;"), -109);
        due("3 two ;", answerTo("nun in 3;;"), -109);
        due("3 number first", answerTo("3 nun"), -100);
        due("3 number behind number", answerTo("nun in 3 4;"), -109);
        due("3 rite 8", answerTo("rite 8 is 1;"), -105);
        due("3 rite is 100", answerTo("rite 7 is 100;"), -110);
        due("3 rite for", answerTo("rite 7 for 1;"), -107);
        due("3 wait for nobody", answerTo("wait 0 for 1;nun in 1;"), -105);
        due("3 the same", answerTo("nun in 1;nun in 1;wait 1 for 1;"), -129);
        due("3 second nobody", answerTo("nun in 1;nun in 1;wait 1 for 2;"), -129);
        due("3 wait is", answerTo("nun in 1;nun in 1;wait 1 is 0;"), -125);
        due("3 strict 10", answerTo("strict 10;"), -107);
        due("3 ease 10", answerTo("ease 10;"), -105);
        due("3 due 10", answerTo("due 10;"), -104);
        due("3 sneeze 100", answerTo("sneeze 100;"), -107);
        due("3 a ninth", answerTo("nun in 0;nun in 1;nun in 2;nun in 3;nun in 4;nun in 5;nun in 6;nun in 7;due 1; nun in 9;"), -179);
        due("3 other byte", answerTo("nun in 3;" + (char) 9), -109);
        due("3 byte 255", answerTo("nun" + (char) 255 + "in 3;"), -103);
        due("3 byte 0", answerTo("nun in 3" + (char) 0 + ";"), -108);
        due("3 minus", answerTo("nun in -3;"), -107);
        due("3 as one likes", answerTo("  nun   in   3  ;  rite3is4;duellist in4grace5 ; "), 2);
        due("3 names run on", answerTo("nunin 3;"), -100);
    }

    // Promises 4, 5
    private static void laws() {
        MannersGaol x = new MannersGaol();
        int[] first = {2, 3, 2, 20};
        int[] top = {9, 9, 9, 99};
        for (int law = 0; law < 4; law++) {
            due("5 first", x.lawOf(law), first[law]);
            due("4 above", x.set(law, top[law] + 1), BAD);
            due("4 below", x.set(law, -1), BAD);
            due("5 unchanged", x.lawOf(law), first[law]);
            due("4 top", x.set(law, top[law]), first[law]);
            due("4 zero", x.set(law, 0), top[law]);
            due("5 zero", x.lawOf(law), 0);
        }
        due("4 law -1", x.set(-1, 0), BAD);
        due("4 law 4", x.set(4, 0), BAD);
        due("5 law -1", x.lawOf(-1), BAD);
        due("5 law 4", x.lawOf(4), BAD);
    }

    // Promises 6, 7
    private static void inmates() {
        MannersGaol x = new MannersGaol();
        due("6 kind 6", x.inmate(6, 0, 0), BAD);
        due("6 kind -1", x.inmate(-1, 0, 0), BAD);
        due("6 grace 100", x.inmate(0, 100, 0), BAD);
        due("6 grace -1", x.inmate(0, -1, 0), BAD);
        due("6 room 8", x.inmate(0, 0, 8), BAD);
        due("6 room -1", x.inmate(0, 0, -1), BAD);
        due("6 none came", x.many(0), 0);
        for (int i = 0; i < 8; i++) {
            due("6 number", x.inmate(i % 6, 99 - i, 7 - i), i);
            due("7 kind", x.of(i, 0), i % 6);
            due("7 grace", x.of(i, 1), 99 - i);
            due("7 room", x.of(i, 2), 7 - i);
            due("7 waits", x.of(i, 3), 0);
            due("7 held", x.of(i, 4), 0);
        }
        due("6 full", x.inmate(0, 0, 0), FULL);
        due("6 bad before full", x.inmate(0, 0, 8), BAD);
        due("7 what 5", x.of(0, 5), BAD);
        due("7 what -1", x.of(0, -1), BAD);
        due("7 one 8", x.of(8, 0), BAD);
        due("7 one -1", x.of(-1, 0), BAD);
        x.await(3, 7);
        due("7 waits for 7", x.of(3, 3), 8);
        due("7 in another room", x.of(3, 4), 0);
        x.bring(3, 0);
        due("7 in the same", x.of(3, 4), 1);
        due("7 not the other", x.of(7, 4), 0);
        x.bring(3, 8);
        x.bring(7, 8);
        due("7 nobody is that is out", x.of(3, 4), 0);
        due("7 out", x.of(3, 2), 8);
    }

    // Promise 8
    private static void needsPaysGains() {
        MannersGaol x = told("inmate in 3 grace 39;inmate in 3;inmate in 4;rite 3 is 21;strict 5;ease 4;due 1;");
        int[] needs = {21, 26, 10, 23, 11, 21};
        int[] pays = {1, 2, -2, 4, -3, 0};
        int[] gains = {4, 4, 6, 3, 11, 8};
        for (int kind = 0; kind < 6; kind++) {
            x.mind(0, kind);
            due("8 needs of " + kind, x.does(0, 0), 1000 + needs[kind]);
            due("8 pays of " + kind, x.does(0, 1), 1000 + pays[kind]);
            due("8 gains of " + kind, x.does(0, 2), 1000 + gains[kind]);
        }
        x.bring(2, 3);
        x.mind(0, 4);
        due("8 nun with two", x.does(0, 0), 1012);
        x.occasions(1);
        x.mind(2, 5);
        due("8 child in odd", x.does(2, 0), 1000);
        x.mind(0, 3);
        x.grace(0, 99);
        x.bring(0, 1);
        x.rite(1, 0);
        x.set(0, 0);
        x.set(1, 0);
        due("8 forger below 0", x.does(0, 0), 991);
        due("8 forger loses", x.does(0, 2), 999);
        x.bring(0, 8);
        due("8 out", x.does(0, 0), NONE);
        due("8 out pays", x.does(0, 1), 1004);
        due("8 out gains", x.does(0, 2), 999);
        due("8 what 3", x.does(0, 3), BAD);
        due("8 what -1", x.does(0, -1), BAD);
        due("8 nobody", x.does(3, 0), BAD);
        due("8 nobody", x.does(-1, 1), BAD);
    }

    // Promises 9 to 13
    private static void changes() {
        MannersGaol x = told("inmate in 3 grace 39;nun in 3;");
        due("9 was inmate", x.mind(0, 5), 0);
        due("9 was child", x.mind(0, 1), 5);
        due("9 kind 6", x.mind(0, 6), BAD);
        due("9 kind -1", x.mind(0, -1), BAD);
        due("9 nobody", x.mind(2, 0), BAD);
        due("9 is burglar", x.of(0, 0), 1);
        due("10 was 39", x.grace(0, 0), 39);
        due("10 was 0", x.grace(0, 99), 0);
        due("10 100", x.grace(0, 100), BAD);
        due("10 -1", x.grace(0, -1), BAD);
        due("10 nobody", x.grace(2, 1), BAD);
        due("10 is 99", x.of(0, 1), 99);
        due("11 out", x.bring(0, 8), 3);
        due("11 in", x.bring(0, 0), 8);
        due("11 9", x.bring(0, 9), BAD);
        due("11 -1", x.bring(0, -1), BAD);
        due("11 nobody", x.bring(2, 0), BAD);
        due("11 is in 0", x.of(0, 2), 0);
        due("12 new", x.await(0, 1), 0);
        due("12 again", x.await(0, 1), 1);
        due("12 same", x.await(1, 1), BAD);
        due("12 nobody", x.await(0, 2), BAD);
        due("12 nobody", x.await(0, -1), BAD);
        due("12 nobody", x.await(2, 0), BAD);
        due("12 is", x.of(0, 3), 2);
        due("13 did", x.excuse(0), 1);
        due("13 didn't", x.excuse(0), 0);
        due("13 nobody", x.excuse(2), BAD);
        due("13 nobody", x.excuse(-1), BAD);
        due("13 is", x.of(0, 3), 0);
        x.inmate(0, 0, 0);
        x.await(0, 1);
        due("12 another one", x.await(0, 2), 0);
        due("12 is the other", x.of(0, 3), 3);
    }

    // Promises 14, 15
    private static void rooms() {
        MannersGaol x = told("inmate in 3;nun in 3;child in 0;");
        due("14 was 10", x.rite(7, 99), 10);
        due("14 was 99", x.rite(7, 0), 99);
        due("14 100", x.rite(7, 100), BAD);
        due("14 -1", x.rite(7, -1), BAD);
        due("14 room 8", x.rite(8, 1), BAD);
        due("14 room -1", x.rite(-1, 1), BAD);
        due("15 rite", x.room(7, 0), 0);
        due("15 those", x.room(3, 1), 3);
        due("15 those", x.room(0, 1), 4);
        due("15 those", x.room(7, 1), 0);
        due("15 room 8", x.room(8, 1), BAD);
        due("15 room -1", x.room(-1, 0), BAD);
        due("15 what 2", x.room(0, 2), BAD);
        due("15 what -1", x.room(0, -1), BAD);
    }

    // Promise 16
    private static void occasions() {
        MannersGaol x = told("inmate in 6 grace 12;");
        due("16 n 0", x.occasions(0), BAD);
        due("16 n 61", x.occasions(61), BAD);
        due("16 one", x.occasions(1), 0);
        due("16 in 7", x.of(0, 2), 7);
        due("16 pays 2", x.of(0, 1), 10);
        due("16 gets out", x.occasions(1), 1);
        due("16 out", x.of(0, 2), 8);
        due("16 paid again", x.of(0, 1), 8);
        due("16 out stays", x.occasions(60), 1);
        due("16 grace stays", x.of(0, 1), 8);
        due("16 occasion", x.state(0), 62);
    }

    private static void turns() {
        // By numbers: 0 is held by 1, that goes on behind it; 2 sees 1 in its room already.
        MannersGaol x = told("inmate in 2 grace 50;inmate in 2 grace 50;inmate in 3 grace 50;wait 0 for 1;wait 2 for 1;");
        x.occasions(1);
        due("16 held", x.of(0, 2), 2);
        due("16 gains", x.of(0, 1), 53);
        due("16 goes on", x.of(1, 2), 3);
        due("16 held by the one that came", x.of(2, 2), 3);
        due("16 gains", x.of(2, 1), 53);
        // A nun's others are those of her turn.
        x = told("inmate in 2 grace 50;nun in 2 grace 5;");
        x.occasions(1);
        due("16 nun goes on", x.of(1, 2), 3);
        due("16 nun gains 3", x.of(1, 1), 8);
        x = told("nun in 2 grace 5;inmate in 2 grace 50;");
        x.occasions(1);
        due("16 nun stays", x.of(0, 2), 2);
        due("16 nun gains 7", x.of(0, 1), 12);
        // GRACE is held to 0 to 99.
        x = told("duellist in 2 grace 99;inmate in 2 grace 1;inmate in 4 grace 98;wait 2 for 0;ease 0;due 0;rite 2 is 0;");
        x.set(2, 9);
        x.occasions(1);
        due("16 held to 0", x.of(1, 1), 0);
        due("16 pays 6", x.of(0, 1), 93);
        x = told("duellist in 2 grace 99;inmate in 4 grace 98;nun in 4;wait 1 for 2;wait 2 for 1;due 0;");
        x.occasions(1);
        due("16 held to 99", x.of(0, 1), 99);
        due("16 nun waits with one that is held", x.of(2, 1), 12);
        due("16 held to 99", x.of(1, 1), 99);
        x = told("forger in 2 grace 0;ease 0;");
        x.occasions(1);
        due("16 less than 0", x.of(0, 1), 0);
        // A child in odd occasions.
        x = told("child in 2 grace 1;");
        x.occasions(1);
        due("16 child stays", x.of(0, 2), 2);
        due("16 child gains 6", x.of(0, 1), 7);
        x.occasions(1);
        due("16 child goes", x.of(0, 2), 3);
        due("16 child pays 0", x.of(0, 1), 7);
        // A forger's grace lessens what it needs.
        x = told("forger in 2 grace 11;");
        x.occasions(1);
        due("16 forger goes", x.of(0, 2), 3);
        due("16 forger pays 6", x.of(0, 1), 5);
    }

    // Promises 17, 18
    private static void draws() {
        MannersGaol x = new MannersGaol();
        due("17 first", x.seed(123), 1);
        due("18 nobody", x.occasion(), 0);
        due("18 no draw", x.seed(-5), 123);
        due("18 occasion", x.state(0), 1);
        due("17 below 0", x.seed(1), -5);
        x = told("inmate in 0 grace 0;inmate in 0 grace 0;inmate in 7 grace 0;sneeze 99;");
        int z = 1;
        int[] rooms = {0, 0, 7};
        for (int t = 0; t < 3; t++) {
            z = z * 1103515245 + 12345;
            int one = (z >>> 16) % 3;
            z = z * 1103515245 + 12345;
            boolean sneezes = (z >>> 16) % 100 < 99;
            if (sneezes && rooms[one] < 8) {
                rooms[one]++;
            }
            due("18 out", x.occasion(), rooms[2] == 8 ? 1 : 0);
            for (int i = 0; i < 3; i++) {
                due("18 room", x.of(i, 2), rooms[i]);
                due("18 grace", x.of(i, 1), rooms[i] == 8 ? x.of(i, 1) : 3 * t + 3);
            }
        }
        due("18 z", x.seed(0), z);
        // From z 1 the first draws are 16838 (the one: 0 of 1) and 38526 (26 of a hundred).
        x = told("inmate in 7 grace 0;sneeze 26;");
        due("18 26 isn't below 26", x.occasion(), 0);
        x = told("inmate in 7 grace 7;sneeze 27;");
        due("18 26 is below 27", x.occasion(), 1);
        due("18 grace stays", x.of(0, 1), 7);
        due("18 out already", x.occasion(), 1);
    }

    // Promise 19
    private static void luck() {
        MannersGaol x = told("inmate in 7 grace 0;sneeze 59;");
        due("19 n 0", x.luck(0), BAD);
        due("19 n 31", x.luck(31), BAD);
        due("19 the first", x.luck(1), 1);
        int z = 1;
        int lucky = 0;
        for (int t = 0; t < 30; t++) {
            z = z * 1103515245 + 12345;
            z = z * 1103515245 + 12345;
            if ((z >>> 16) % 100 < 59) {
                lucky++;
            }
        }
        due("19 thirty", x.luck(30), lucky);
        due("19 nothing changes", x.of(0, 2), 7);
        due("19 nor the occasion", x.state(0), 0);
        due("19 nor z", x.seed(1), 1);
        x.grace(0, 50);
        due("19 out anyway", x.luck(30), 0);
    }

    // Promise 20
    private static void states() {
        MannersGaol x = told("inmate in 3 grace 10;nun in 3 grace 20;child in 1 grace 3;burglar in 1;inmate in 0;wait 1 for 0;wait 2 for 0;rite 2 is 15;");
        due("20 occasion", x.state(0), 0);
        due("20 out", x.state(1), 0);
        due("20 held", x.state(2), 2);
        due("20 grace", x.state(3), 43);
        due("20 crowd", x.state(4), 1);
        due("20 rites", x.state(5), 85);
        x.bring(4, 3);
        due("20 crowd", x.state(4), 3);
        x.bring(0, 8);
        x.bring(4, 8);
        due("20 out", x.state(1), 17);
        due("20 held", x.state(2), 0);
        due("20 grace of all", x.state(3), 43);
        due("20 crowd", x.state(4), 1);
        for (int i = 0; i < 5; i++) {
            x.bring(i, 8);
        }
        due("20 no crowd", x.state(4), 8);
        due("20 what 6", x.state(6), BAD);
        due("20 what -1", x.state(-1), BAD);
    }

    // Promises 21 to 24
    private static void tried() {
        // 5, 8, 11: goes at grace 11; then 9, 12: goes; 10: goes.
        MannersGaol x = told("inmate in 5 grace 5;");
        int[] rooms = {5, 5, 5, 6, 6, 7, 8, 8};
        for (int n = 0; n < rooms.length; n++) {
            due("21 where " + n, x.where(0, n), rooms[n]);
        }
        due("21 60", x.where(0, 60), 8);
        due("21 61", x.where(0, 61), BAD);
        due("21 -1", x.where(0, -1), BAD);
        due("21 nobody", x.where(1, 0), BAD);
        due("22 leaves", x.leaves(0), 6);
        due("22 nobody", x.leaves(1), BAD);
        due("22 nobody", x.leaves(-1), BAD);
        due("23 empty", x.empty(), 6);
        due("24 there", x.passes(0, 0), 0);
        due("24 there", x.passes(0, 5), 0);
        due("24 6", x.passes(0, 6), 3);
        due("24 7", x.passes(0, 7), 5);
        due("24 8", x.passes(0, 8), 6);
        due("24 9", x.passes(0, 9), BAD);
        due("24 -1", x.passes(0, -1), BAD);
        due("24 nobody", x.passes(1, 0), BAD);
        due("21 nothing changes", x.of(0, 2) * 100 + x.of(0, 1), 505);
        due("21 nor the occasion", x.state(0), 0);
        // EASE 1, from 38 to 98 in 60 occasions: then it goes in the 61st; from 39 it goes in the 60th.
        x = told("inmate in 7 grace 38;ease 1;rite 7 is 98;");
        due("22 not by 60", x.leaves(0), NONE);
        due("23 not by 60", x.empty(), NONE);
        due("24 not by 60", x.passes(0, 8), NONE);
        x.grace(0, 39);
        due("22 by 60", x.leaves(0), 60);
        due("23 by 60", x.empty(), 60);
        due("24 by 60", x.passes(0, 8), 60);
        x.bring(0, 8);
        due("22 out now", x.leaves(0), 0);
        due("23 all out now", x.empty(), 0);
        x.inmate(0, 10, 7);
        x.rite(7, 10);
        due("23 the last", x.empty(), 1);
        due("23 nobody at all", new MannersGaol().empty(), 0);
    }

    // Promise 25
    private static void knots() {
        MannersGaol x = new MannersGaol();
        for (int i = 0; i < 8; i++) {
            x.inmate(0, 0, i);
        }
        for (int i = 0; i < 7; i++) {
            x.await(i, i + 1);
        }
        due("25 comes to 7", x.knot(0), 0);
        x.await(7, 6);
        due("25 at the end", x.knot(0), 192);
        due("25 in it", x.knot(7), 192);
        x.await(7, 0);
        due("25 all", x.knot(3), 255);
        x.excuse(3);
        due("25 none", x.knot(3), 0);
        due("25 none", x.knot(7), 0);
        due("25 nobody", x.knot(8), BAD);
        due("25 nobody", x.knot(-1), BAD);
    }

    // Promise 26
    private static void rude() {
        // 0 and 1 wait for one another, and so do 2 and 3; 1 waits not, then it goes, then 0.
        MannersGaol x = told("inmate in 7 grace 10;inmate in 7 grace 10;inmate in 7 grace 10;inmate in 7 grace 10;wait 0 for 1;wait 1 for 0;wait 2 for 3;wait 3 for 2;");
        due("26 itself", x.rudeFor(0, 1), 1);
        due("26 the least, if it has time", x.rudeFor(1, 2), 1);
        due("26 behind 0 at once", x.rudeFor(1, 1), 1);
        due("26 of the others", x.rudeFor(3, 1), 4);
        due("26 nothing in time", x.rudeFor(0, 0), NONE);
        x.await(2, 0);
        x.await(3, 2);
        due("26 one frees more", x.rudeFor(3, 40), 1);
        x.excuse(0);
        due("26 nobody", x.rudeFor(0, 1), 0);
        // 1 goes behind 0 (0 has had its turn), 2 behind 0 too.
        due("26 nobody", x.rudeFor(2, 1), 0);
        x.bring(0, 8);
        due("26 out", x.rudeFor(0, 0), 0);
        due("26 n 41", x.rudeFor(0, 41), BAD);
        due("26 n -1", x.rudeFor(0, -1), BAD);
        due("26 nobody there", x.rudeFor(4, 1), BAD);
        // A ring that is behind one in two rooms: two must be rude.
        x = told("inmate in 6 grace 40;inmate in 6 grace 40;inmate in 7 grace 40;inmate in 7 grace 40;wait 1 for 0;wait 0 for 1;wait 2 for 3;wait 3 for 2;");
        x.await(0, 2);
        due("26 not held", x.rudeFor(0, 1), NONE);
        due("26 held at the gate: two ways, the less", x.rudeFor(0, 2), 1);
        x = told("inmate in 6 grace 40;inmate in 6 grace 40;inmate in 6 grace 40;wait 0 for 1;wait 1 for 2;wait 2 for 1;");
        due("26 itself in two", x.rudeFor(0, 2), 1);
        due("26 1 in two", x.rudeFor(1, 2), 2);
        due("26 2 in two", x.rudeFor(2, 2), 2);
        due("26 nothing changes", x.many(2), 3);
        // The nun goes if two of the others are gone by her turn: 0 and 1, or 2 with 3 behind it.
        x = told("inmate in 7 grace 50;inmate in 7 grace 50;inmate in 7 grace 50;inmate in 7 grace 50;nun in 7 grace 8;"
            + "nun in 7 grace 0;wait 0 for 5;wait 1 for 5;wait 2 for 5;wait 3 for 2;");
        due("26 the fewest, not the least", x.rudeFor(4, 1), 4);
        x.await(3, 5);
        due("26 of several the least", x.rudeFor(4, 1), 3);
        x.grace(4, 7);
        due("26 three", x.rudeFor(4, 1), 7);
        x.grace(4, 5);
        due("26 too many needed", x.rudeFor(4, 1), NONE);
    }

    // Promise 27
    private static void graceFor() {
        MannersGaol x = told("inmate in 7 grace 50;inmate in 7;wait 1 for 0;rite 7 is 30;");
        due("27 at once", x.graceFor(0, 1), 30);
        due("27 in two", x.graceFor(0, 2), 27);
        due("27 in eleven", x.graceFor(0, 11), 0);
        due("27 in 40", x.graceFor(0, 40), 0);
        due("27 now", x.graceFor(0, 0), NONE);
        due("27 n 41", x.graceFor(0, 41), BAD);
        due("27 n -1", x.graceFor(0, -1), BAD);
        due("27 nobody", x.graceFor(2, 0), BAD);
        x.grace(0, 0);
        due("27 held till it goes", x.graceFor(1, 10), NONE);
        due("27 behind it", x.graceFor(1, 11), 0);
        x.bring(0, 8);
        due("27 out", x.graceFor(0, 0), 0);
        due("27 nothing changes", x.of(1, 1), 5);
        x.rite(7, 99);
        due("27 99", x.graceFor(1, 1), 99);
        x.mind(1, 1);
        due("27 a burglar needs more", x.graceFor(1, 1), NONE);
    }

    // Promises 28 to 30
    private static void kindRiteHost() {
        MannersGaol x = told("inmate in 7 grace 0;rite 7 is 12;");
        // inmate: 0 3 6 9 12 goes: 5. duellist: 0 5 10 goes: 3. nun: 0 7 goes: 2. child: 0, then odd: 2.
        due("28 nun and child, the least", x.kindFor(0), 4);
        due("29 the gate's", x.riteFor(0), 7);
        due("30 nobody else", x.hostFor(0), NONE);
        x.grace(0, 12);
        due("28 all but burglar and forger", x.kindFor(0), 0);
        due("29 no sooner", x.riteFor(0), NONE);
        x.grace(0, 0);
        x.occasions(1);
        x.grace(0, 0);
        due("28 child at once", x.kindFor(0), 5);
        due("28 nobody", x.kindFor(1), BAD);
        due("29 nobody", x.riteFor(1), BAD);
        due("30 nobody", x.hostFor(1), BAD);
        due("30 nobody", x.hostFor(-1), BAD);
        x = told("inmate in 7 grace 0;burglar in 7 grace 0;inmate in 0 grace 0;wait 0 for 1;wait 1 for 0;");
        due("28 never", x.kindFor(0), 0);
        due("29 never", x.riteFor(0), NONE);
        due("30 never already", x.hostFor(0), NONE);
        x.excuse(0);
        // 0: in the fifth (0 3 6 9 12); waiting for 2 changes nothing, for 1: never.
        due("30 for ever", x.hostFor(0), 1);
        x.excuse(1);
        // 1 needs 12 too: gone in the fifth, behind 0; 0 goes in the sixth.
        due("30 later", x.hostFor(0), 1);
        due("30 no later", x.hostFor(1), NONE);
        x.await(0, 2);
        due("28 nothing changes", x.of(0, 0), 0);
        due("29 nothing changes", x.state(5), 80);
        due("30 nothing changes", x.of(0, 3), 3);
        // Rites of 6 and 7 both stop it; 6 is the sooner way in: 0 at 20 needs 30, 40.
        x = told("inmate in 6 grace 20;rite 6 is 30;rite 7 is 40;");
        // as it is: 20.. 32 goes in 5 (30), then 30 to 42 (4 more) goes: 10. 6 at 0: goes 1 (18), 8 more to 42: 10. 7 at 0: 5, 6.
        due("29 which", x.riteFor(0), 7);
    }

    // Promise 31
    private static void fits() {
        MannersGaol x = told("inmate in 6 grace 50;");
        due("31 missing", x.fits(0, 0, 0), -11);
        x.sheet(0, 3, 0);
        due("31 no numbers", x.fits(0, 0, 0), 100);
        due("31 no numbers", x.fits(0, 0, 1), 0);
        x.sheet(0, 2, 3);
        x.put(0, 0, 6);
        x.put(0, 1, 7);
        x.put(0, 2, -1);
        // Below 10 now, 10 or more 3 later: 7, 8, 9.
        due("31 how many", x.fits(0, 0, 0), 3);
        due("31 least", x.fits(0, 0, 1), 7);
        x.put(0, 2, 8);
        // Behind that 8, 9, 10: 10 goes out.
        due("31 how many", x.fits(0, 0, 0), 1);
        due("31 least", x.fits(0, 0, 1), 9);
        x.put(0, 2, 9);
        due("31 no such room", x.fits(0, 0, 0), 0);
        due("31 none", x.fits(0, 0, 1), NONE);
        x.put(0, 2, -2);
        due("31 -2 is no room", x.fits(0, 0, 0), 0);
        due("31 sheet 4", x.fits(4, 0, 0), BAD);
        due("31 sheet -1", x.fits(-1, 0, 0), BAD);
        due("31 nobody", x.fits(0, 1, 0), BAD);
        due("31 what 2", x.fits(0, 0, 2), BAD);
        due("31 bad before missing", x.fits(1, 0, -1), BAD);
        x.sheet(1, 0, 2);
        x.put(1, 0, 264);
        x.put(1, 1, 255);
        x.bring(0, 7);
        due("31 narrowed to 8 and -1", x.fits(1, 0, 1), 10);
        due("31 nothing changes", x.of(0, 1), 50);
    }

    // Promises 32, 33
    private static void odds() {
        MannersGaol x = new MannersGaol();
        due("32 n -1", x.odds(-1, 0, 0), BAD);
        due("32 n 9", x.odds(9, 1, 0), BAD);
        due("32 k -1", x.odds(3, -1, 0), BAD);
        due("32 k 4", x.odds(3, 4, 0), BAD);
        due("32 part 2", x.odds(3, 3, 2), BAD);
        due("32 part -1", x.odds(3, 3, -1), BAD);
        due("32 none of none", x.odds(0, 0, 1), 1);
        // A fifth each: 70 * 4^4 / 5^8 = 14 * 256 / 5^7.
        due("32 above", x.odds(8, 4, 0), 3584);
        due("32 below", x.odds(8, 4, 1), 78125);
        x.set(3, 99);
        due("32 99^8", x.odds(8, 8, 0), 9227446944279201L);
        due("32 100^8", x.odds(8, 8, 1), 10000000000000000L);
        x.set(3, 37);
        due("32 8 * 37 * 63^7 by 100^8, above", x.odds(8, 1, 0), 37L * 3938980639167L);
        due("32 below", x.odds(8, 1, 1), 1250000000000000L);
        due("33 n -1", x.hope(-1, 0), BAD);
        due("33 n 100", x.hope(100, 0), BAD);
        due("33 part 2", x.hope(1, 2), BAD);
        due("33 99 * 37", x.hope(99, 0), 3663);
        due("33 100", x.hope(99, 1), 100);
        due("33 50 * 37 by 100", x.hope(50, 0) * 10 + x.hope(50, 1), 372);
        due("33 none", x.hope(0, 0), 0);
        due("33 none by 1", x.hope(0, 1), 1);
        x.set(3, 0);
        due("32 never", x.odds(5, 1, 0), 0);
        due("32 0 by 1", x.odds(5, 1, 1), 1);
        due("32 surely none", x.odds(5, 0, 0), 1);
        due("33 never by 1", x.hope(3, 1), 1);
    }

    // Promises 34 to 37
    private static void rows() {
        MannersGaol x = told("inmate in 6 grace 9;inmate in 7 grace 12;");
        due("37 no rows", x.judge(0), 0);
        due("37 nobody, no rows", x.judge(2), BAD);
        due("35 no rows", x.row(0, 0), -9);
        due("34 n 0", x.prove(0, 0), BAD);
        due("34 n 11", x.prove(0, 11), BAD);
        due("34 nobody", x.prove(2, 1), BAD);
        due("34 three", x.prove(0, 3), 3);
        int[] want = {6, 12, 2, 7, 10, 2, 8, 8, 3};
        for (int i = 0; i < 9; i++) {
            due("35 row " + i / 3 + ", " + i % 3, x.row(i / 3, i % 3), want[i]);
        }
        due("35 row 3", x.row(3, 0), -9);
        due("35 row -1", x.row(-1, 0), -9);
        due("35 what 3", x.row(0, 3), -9);
        due("35 what -1", x.row(1, -1), -9);
        due("37 right", x.judge(0), 0);
        due("37 of another", x.judge(1), 1);
        due("36 what 3", x.alterRow(0, 3, 1), -9);
        due("36 row 3", x.alterRow(3, 0, 1), -9);
        due("36 row -1", x.alterRow(-1, 0, 1), -9);
        for (int i = 8; i >= 0; i--) {
            due("36 was", x.alterRow(i / 3, i % 3, -9), want[i]);
            due("35 is", x.row(i / 3, i % 3), -9);
            due("37 the first", x.judge(0), i / 3 + 1);
        }
        due("34 fewer", x.prove(1, 1), 1);
        due("34 are one", x.many(4), 1);
        due("35 one row", x.row(1, 0), -9);
        due("34 nothing changes", x.of(0, 2), 6);
        due("34 ten", x.prove(1, 10), 10);
        due("37 right", x.judge(1), 0);
        x.occasions(1);
        // It was out in the first already; the other one leaves an occasion sooner now.
        due("37 from how it is now", x.judge(1), 2);
        due("37 nobody", x.judge(-1), BAD);
    }

    // Promise 38
    private static void minds() {
        MannersGaol x = told("inmate in 0;inmate in 0;inmate in 0;");
        due("38 missing", x.minds(0, 0, 0, 0), -11);
        x.sheet(0, 0, 4);
        x.put(0, 0, -1);
        x.put(0, 1, 99);
        x.put(0, 2, 100);
        x.put(0, 3, 42);
        due("38 three", x.minds(0, 1, 0, 3), 3);
        due("38 99", x.of(0, 1), 99);
        due("38 held", x.of(1, 1), 99);
        due("38 42", x.of(2, 1), 42);
        due("38 one", x.minds(0, 0, 1, 1), 1);
        due("38 held to 0", x.of(1, 1), 0);
        due("38 the others stay", x.of(2, 1), 42);
        due("38 none at the end", x.minds(0, 4, 2, 0), 0);
        due("38 none behind it", x.minds(0, 5, 2, 0), -12);
        due("38 none before it", x.minds(0, -1, 2, 0), -12);
        due("38 not so many", x.minds(0, 3, 0, 2), -12);
        due("38 far", x.minds(0, Integer.MAX_VALUE, 0, 2), -12);
        due("38 nothing of it", x.of(0, 1), 99);
        due("38 beyond the last", x.minds(0, 0, 1, 3), BAD);
        due("38 n 9", x.minds(0, 0, 0, 9), BAD);
        due("38 n -1", x.minds(0, 0, 0, -1), BAD);
        due("38 nobody", x.minds(0, 0, 3, 0), BAD);
        due("38 sheet 4", x.minds(4, 0, 0, 0), BAD);
        due("38 bad first", x.minds(1, 0, 3, 0), BAD);
        for (int sort = 1; sort < 4; sort++) {
            x.sheet(1, sort, 3);
            due("38 not bytes", x.minds(1, 9, 0, 1), -13);
        }
    }

    // Promises 39 to 41
    private static void sheets() {
        MannersGaol x = new MannersGaol();
        due("39 sheet 4", x.sheet(4, 0, 1), BAD);
        due("39 sheet -1", x.sheet(-1, 0, 1), BAD);
        due("39 sort 4", x.sheet(0, 4, 1), BAD);
        due("39 sort -2", x.sheet(0, -2, 1), BAD);
        due("39 41", x.sheet(0, 0, 41), BAD);
        due("39 -1", x.sheet(0, 0, -1), -14);
        due("39 bad before -14", x.sheet(0, 4, -1), BAD);
        due("39 still missing", x.put(0, 0, 0), -11);
        int[] narrowed = {-56, 200, 200, 200};
        int[] wide = {0x78, 0x5678, 0x12345678, 0x12345678};
        for (int sort = 0; sort < 4; sort++) {
            due("39 forty", x.sheet(sort, sort, 40), 1);
            due("40 first", x.put(sort, 0, 200), 1);
            due("40 last", x.put(sort, 39, 0x12345678), 1);
            due("41 first", x.item(sort, sort, 0), narrowed[sort]);
            due("41 last", x.item(sort, sort, 39), wide[sort]);
            due("41 0", x.item(sort, sort, 1), 0);
            due("40 40", x.put(sort, 40, 1), -12);
            due("40 -1", x.put(sort, -1, 1), -12);
            due("41 40", x.item(sort, sort, 40), -12);
            due("41 -1", x.item(sort, sort, -1), -12);
            due("41 other sort first", x.item(sort, (sort + 1) % 4, 40), -13);
            due("40 low", x.put(sort, 2, -12), 1);
            due("41 low", x.item(sort, sort, 2), -12);
        }
        due("40 least", x.put(3, 5, Integer.MIN_VALUE), 1);
        due("41 least", x.item(3, 3, 5), Integer.MIN_VALUE);
        due("40 short", x.put(1, 5, 40000), 1);
        due("41 short", x.item(1, 1, 5), -25536);
        due("40 sheet 4", x.put(4, 0, 0), BAD);
        due("41 sheet 4", x.item(4, 0, 0), BAD);
        due("41 sort 4", x.item(0, 4, 0), BAD);
        due("41 sort -1", x.item(0, -1, 0), BAD);
        due("39 anew", x.sheet(0, 0, 40), 1);
        due("39 all 0", x.item(0, 0, 0), 0);
        due("39 missing, n counts nothing", x.sheet(0, -1, 99), 1);
        due("41 missing", x.item(0, 0, 0), -11);
        due("41 bad before missing", x.item(0, 4, 0), BAD);
        due("39 none", x.sheet(0, 2, 0), 1);
        due("40 none", x.put(0, 0, 0), -12);
    }

    // Promises 42, 43
    private static void shelves() {
        MannersGaol x = told("inmate in 0;burglar in 0;duellist in 0;forger in 0;nun in 0;child in 0;");
        String[] as = {"012345", "13", "24", "3", "4", "5"};
        for (int i = 0; i < 6; i++) {
            due("42 one", x.shelf(3, 0, i), 1);
            for (int kind = 0; kind < 6; kind++) {
                boolean fits = as[kind].indexOf('0' + i) >= 0;
                due("43 " + i + " as " + kind, x.taken(3, kind), fits ? i : -13);
            }
            due("43 as a row", x.taken(3, 10), -13);
        }
        due("42 shelf 4", x.shelf(4, 0, 0), BAD);
        due("42 shelf -1", x.shelf(-1, 0, 0), BAD);
        due("42 what 3", x.shelf(0, 3, 0), BAD);
        due("42 what -1", x.shelf(0, -1, 0), BAD);
        due("42 nobody", x.shelf(3, 0, 6), BAD);
        due("42 nobody", x.shelf(3, 0, -1), BAD);
        due("42 sheet 4", x.shelf(3, 1, 4), BAD);
        due("42 sheet -1", x.shelf(3, 1, -1), BAD);
        due("42 refused", x.taken(3, 5), 5);
        due("43 shelf 4", x.taken(4, 0), BAD);
        due("43 as 6", x.taken(3, 6), BAD);
        due("43 as 9", x.taken(3, 9), BAD);
        due("43 as 14", x.taken(3, 14), BAD);
        due("43 as -1", x.taken(3, -1), BAD);
        due("43 bad before nothing", x.taken(0, 6), BAD);
        due("43 nothing", x.taken(0, 10), -11);
        due("42 missing", x.shelf(3, 1, 0), 1);
        due("43 nothing", x.taken(3, 0), -11);
        x.sheet(0, 2, 7);
        due("42 row", x.shelf(3, 1, 0), 1);
        due("43 as ints", x.taken(3, 12), 7);
        due("43 as bytes", x.taken(3, 10), -13);
        due("43 as longs", x.taken(3, 13), -13);
        due("43 as an inmate", x.taken(3, 0), -13);
        x.sheet(0, 0, 2);
        due("43 the row that it was", x.taken(3, 12), 7);
        due("42 nothing", x.shelf(3, 2, 99), 1);
        due("43 nothing", x.taken(3, 12), -11);
        x.shelf(2, 0, 5);
        x.mind(5, 3);
        due("43 its kind at the time", x.taken(2, 1), 5);
        x.gaol();
        due("43 nobody at the time", x.taken(2, 0), -11);
        for (int i = 0; i < 6; i++) {
            x.inmate(5, 0, 0);
        }
        due("43 one at the time", x.taken(2, 5), 5);
    }

    private static void dueTrace(MannersGaol x, String call, int... bodies) {
        due(call + " many", x.many(6), bodies.length);
        for (int i = 0; i < bodies.length; i++) {
            due(call + " trace " + i, x.trace(i), bodies[i]);
        }
        due(call + " trace end", x.trace(bodies.length), NONE);
        due(call + " trace -1", x.trace(-1), NONE);
    }

    // Promises 44, 45
    private static void acts() {
        // n is 1, a is 4; parts by 3.
        MannersGaol x = told("inmate in 0;inmate in 4;");
        x.shelf(0, 0, 1);
        due("44 bows", x.act(0, 0, 10), 39);
        dueTrace(x, "45 bows", 10);
        due("44 thanks", x.act(0, 1, 10), 43);
        dueTrace(x, "45 thanks", 11, 10);
        due("44 parts", x.act(0, 2, -10), -3);
        dueTrace(x, "45 parts", 12);
        due("44 leaves", x.act(0, 3, 10), 43 ^ 180);
        dueTrace(x, "45 leaves", 13, 11, 10);
        x.mind(1, 1);
        due("44 burglar thanks", x.act(0, 1, 10), 86);
        dueTrace(x, "45 burglar thanks", 20, 11, 10);
        due("44 burglar leaves", x.act(0, 3, 10), 86 ^ 180);
        dueTrace(x, "45 burglar leaves", 13, 20, 11, 10);
        x.mind(1, 2);
        due("44 duellist bows", x.act(0, 0, 10), 38);
        dueTrace(x, "45 duellist bows", 30, 10);
        due("44 duellist leaves", x.act(0, 3, 10), 42 ^ 180);
        dueTrace(x, "45 duellist leaves", 31, 13, 11, 30, 10, 12);
        x.mind(1, 3);
        due("44 forger bows", x.act(0, 0, 10), 47);
        dueTrace(x, "45 forger bows", 51, 10);
        due("44 forger thanks", x.act(0, 1, 10), 102);
        dueTrace(x, "45 forger thanks", 20, 11, 51, 10);
        due("44 forger parts", x.act(0, 2, 10), 9);
        dueTrace(x, "45 forger parts", 50, 12);
        due("44 forger leaves", x.act(0, 3, 10), 102 ^ 180);
        dueTrace(x, "45 forger leaves", 13, 20, 11, 51, 10);
        x.mind(1, 4);
        due("44 nun bows", x.act(0, 0, 10), -38);
        dueTrace(x, "45 nun bows", 40, 30, 10);
        // thanks: -38 + 4, less bows(4), that is -(15 ^ 1).
        due("44 nun thanks", x.act(0, 1, 10), -34 + 14);
        dueTrace(x, "45 nun thanks", 41, 11, 40, 30, 10, 40, 30, 10);
        due("44 nun leaves", x.act(0, 3, 10), -20 ^ 180);
        dueTrace(x, "45 nun leaves", 31, 13, 41, 11, 40, 30, 10, 40, 30, 10, 12);
        x.mind(1, 5);
        due("44 child leaves", x.act(0, 3, 10), (43 ^ 180) - 10);
        dueTrace(x, "45 child leaves", 60, 13, 11, 10);
        // parts: 10 by 3, and bows(1), that is 3.
        due("44 child parts", x.act(0, 2, 10), 6);
        dueTrace(x, "45 child parts", 61, 12, 10);
        x.bring(1, 8);
        due("44 out: 8", x.act(0, 1, 10), 47);
        x.mind(1, 0);
        x.bring(1, 0);
        due("44 wraps", x.act(0, 2, Integer.MIN_VALUE), Integer.MIN_VALUE);
        due("44 wraps", x.act(0, 0, Integer.MAX_VALUE), -5);
    }

    private static void stuckActs() {
        MannersGaol x = told("inmate in 0;inmate in 1;");
        x.shelf(0, 0, 1);
        due("44 parted by 0", x.act(0, 2, 10), -15);
        dueTrace(x, "45 parted by 0", 12);
        x.mind(1, 5);
        due("44 child parted by 0", x.act(0, 2, 10), -15);
        dueTrace(x, "45 child parted by 0", 61, 12);
        x.mind(1, 3);
        due("44 forger parted by 0", x.act(0, 2, 10), -15);
        dueTrace(x, "45 forger parted by 0", 50, 12);
        x.mind(1, 2);
        due("44 duellist leaves", x.act(0, 3, 10), -15);
        dueTrace(x, "45 duellist leaves", 31, 13, 11, 30, 10, 12);
        due("44 no longer", x.act(0, 0, 10), 38);
        x.act(0, 0, 1);
        due("44 shelf 4", x.act(4, 0, 1), 0);
        dueTrace(x, "45 shelf 4");
        x.act(0, 0, 1);
        due("44 act 4", x.act(0, 4, 1), 0);
        dueTrace(x, "45 act 4");
        x.act(0, 0, 1);
        due("44 act -1", x.act(0, -1, 1), 0);
        dueTrace(x, "45 act -1");
        x.act(0, 0, 1);
        due("44 nothing", x.act(1, 0, 1), 0);
        dueTrace(x, "45 nothing");
        x.sheet(0, 0, 1);
        x.shelf(1, 1, 0);
        x.act(0, 0, 1);
        due("44 a row", x.act(1, 0, 1), 0);
        dueTrace(x, "45 a row");
        x.act(0, 0, 1);
        x.gaol();
        dueTrace(x, "45 stays behind a gaol", 30, 10);
        due("44 nobody at the time", x.act(0, 0, 1), 0);
        dueTrace(x, "45 nobody");
    }

    // Promise 46
    private static void many() {
        MannersGaol x = told("inmate in 0;inmate in 0;inmate in 1;inmate in 1;wait 0 for 1;wait 1 for 2;wait 2 for 3;");
        x.bring(3, 8);
        x.feed(0, 3);
        x.prove(0, 6);
        x.shelf(0, 0, 0);
        x.act(0, 1, 0);
        int[] want = {4, 1, 3, 1, 6, 3, 2};
        for (int what = 0; what <= 6; what++) {
            due("46 many " + what, x.many(what), want[what]);
        }
        due("46 7", x.many(7), BAD);
        due("46 -1", x.many(-1), BAD);
    }

    // Promises 47, 48
    private static void kept() {
        MannersGaol x = told("inmate in 0 grace 9;nun in 0;wait 0 for 1;strict 4;rite 5 is 6;");
        x.seed(99);
        x.occasions(1);
        due("47 keep", x.keep(), 1);
        x.feed(0, 2);
        x.prove(0, 2);
        x.sheet(1, 1, 1);
        x.shelf(0, 0, 2);
        x.inmate(0, 0, 0);
        x.shelf(0, 0, 2);
        x.act(0, 0, 0);
        x.mind(0, 3);
        x.grace(0, 77);
        x.bring(0, 4);
        x.excuse(0);
        x.await(1, 0);
        x.set(0, 1);
        x.rite(5, 9);
        x.occasion();
        due("48 again", x.again(), 2);
        due("48 inmates", x.many(0), 2);
        due("48 kind", x.of(0, 0), 0);
        due("48 grace", x.of(0, 1), 12);
        due("48 room", x.of(0, 2), 0);
        due("48 waits", x.of(0, 3), 2);
        due("48 waits not", x.of(1, 3), 0);
        due("48 law", x.lawOf(0), 4);
        due("48 rite", x.room(5, 0), 6);
        due("48 occasion", x.state(0), 1);
        due("48 z", x.seed(99), 99);
        due("48 tape stays", x.many(5), 2);
        due("48 rows stay", x.many(4), 2);
        due("48 trace stays", x.many(6), 1);
        due("48 sheet stays", x.item(1, 1, 0), 0);
        due("48 nobody on the shelf", x.taken(0, 0), -11);
        x.grace(0, 1);
        due("48 which stays", x.again(), 2);
        due("48 grace again", x.of(0, 1), 12);
        x.inmate(5, 5, 5);
        due("48 on the shelf again", x.taken(0, 5), 2);
        due("47 the latest", x.keep(), 1);
        x.gaol();
        due("48 the latest", x.again(), 3);
    }
}
