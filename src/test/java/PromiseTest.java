import java.util.function.IntSupplier;

/** Each promise of the document by hand: ordinary calls, the edges that it names, and wrong ones. */
public final class PromiseTest {
    private static final int BAD = HerbKey.BAD;
    private static final int MIN = Integer.MIN_VALUE;
    private static final int MAX = Integer.MAX_VALUE;

    private static int wrong = 0;
    private static int promise = 0;

    private static void is(String what, long got, long due) {
        if (got == due) return;
        wrong++;
        System.out.println("promise " + promise + ": " + what + " answered " + got + ", due is " + due);
    }

    /** A call that went well: its answer, and status 0. */
    private static void well(String what, HerbKey x, long got, long due) {
        is(what, got, due);
        is(what + ", status", x.status(), 0);
    }

    /** A call that was refused: BAD, and why. */
    private static void refused(String what, HerbKey x, long got, int why) {
        is(what, got, BAD);
        is(what + ", status", x.status(), why);
    }

    public static void main(String[] args) {
        newObject(); sheet(); lose(); row(); state(); measure(); lack(); code(); read(); merge();
        key(); drop(); couplet(); coupletNumbers(); lead(); join(); region(); want(); weigh(); slack(); learn();
        ask(); askMeasures(); cause(); names(); name(); unknowns(); pick(); pickWays(); proof(); forge();
        check(); checkTables(); sure(); score(); next(); compare(); unreached(); depth(); parted(); twins();
        parts(); trace(); undo(); undoEach(); changes(); status(); digest();
        System.out.println(wrong == 0 ? "all promises hold" : wrong + " answers are not as due");
        if (wrong != 0) System.exit(1);
    }

    // ---- houses that several tests begin with

    /** Sheet 0 with four states 1, 1, 0, 0; sheet 1 without rows. */
    private static HerbKey seen() {
        HerbKey x = new HerbKey();
        x.sheet();
        x.sheet();
        x.row(0, 0, 4);
        x.state(0, 0, 1);
        x.state(0, 1, 1);
        return x;
    }

    /** Key 0 of a kind with n couplets: state c is 1. */
    private static HerbKey keyed(int kind, int n) {
        HerbKey x = seen();
        x.key(kind);
        for (int c = 0; c < n; c++) x.couplet(0, 0, c, 1, 0);
        return x;
    }

    /** 0 leads by YES to 1, by NO to 2; 1 to names 10 (YES) and 11, 2 to names 12 (YES) and 13. */
    private static HerbKey tree(int kind) {
        HerbKey x = keyed(kind, 3);
        x.lead(0, 0, true, 1);
        x.lead(0, 0, false, 2);
        x.lead(0, 1, true, 110);
        x.lead(0, 1, false, 111);
        x.lead(0, 2, true, 112);
        x.lead(0, 2, false, 113);
        return x;
    }

    // ---- promises

    private static void newObject() {
        promise = 1;
        HerbKey x = new HerbKey();
        is("BAD", HerbKey.BAD, -1);
        is("changes", x.changes(), 0);
        is("status", x.status(), 0);
        is("digest", x.digest(), 7L * 31 * 31);
        refused("undo", x, x.undo(), 7);
        refused("name", x, x.name(0), 3);
        refused("unknowns", x, x.unknowns(0), 3);
        refused("pick", x, x.pick(0), 3);
        refused("proof", x, x.proof(0), 7);
        refused("check", x, x.check(), 7);
        refused("lose", x, x.lose(0), 2);
        refused("drop", x, x.drop(0), 1);
    }

    private static void sheet() {
        promise = 2;
        HerbKey x = new HerbKey();
        for (int i = 0; i < 40; i++) {
            well("sheet", x, x.sheet(), i);
            if (i == 20) x.lose(20);
        }
        refused("the 41st, though one was lost", x, x.sheet(), 8);
        is("changes", x.changes(), 41);
        x.undo();
        well("a number taken back is free", x, x.sheet(), 39);
        refused("rows are missing at first", x, x.state(39, 0, 0), 3);
    }

    private static void lose() {
        promise = 3;
        HerbKey x = seen();
        well("lose", x, x.lose(0), 1);
        refused("once more", x, x.lose(0), 2);
        refused("no row", x, x.row(0, 0, 1), 2);
        refused("never made", x, x.lose(2), 2);
        refused("below 0", x, x.lose(-1), 2);
        refused("40", x, x.lose(40), 2);
        refused("greatest", x, x.lose(MAX), 2);
        refused("least", x, x.lose(MIN), 2);
        well("number not used again", x, x.sheet(), 2);
        well("lose", x, x.lose(1), 1);
        well("lose", x, x.lose(2), 0);
        x = seen();
        well("sheet 0 counts", x, x.lose(1), 1);
    }

    private static void row() {
        promise = 4;
        HerbKey x = seen();
        for (int kind = 0; kind < 3; kind++) {
            well("40 places", x, x.row(1, kind, 40), 40);
            well("all 0", x, x.read(1, kind, 39), 0);
            refused("no 41st", x, x.read(1, kind, 40), 3);
            well("no places", x, x.row(1, kind, 0), 0);
            refused("none", x, x.read(1, kind, 0), 3);
            well("missing", x, x.row(1, kind, -1), -1);
        }
        well("a new row", x, x.row(0, 0, 4), 4);
        well("is all 0", x, x.read(0, 0, 0), 0);
        refused("41", x, x.row(0, 0, 41), 5);
        refused("-2", x, x.row(0, 0, -2), 5);
        refused("greatest", x, x.row(0, 0, MAX), 5);
        refused("kind 3", x, x.row(0, 3, 41), 3);
        refused("kind -1", x, x.row(0, -1, 1), 3);
        refused("sheet first", x, x.row(2, 3, 41), 2);
        well("nothing was changed", x, x.read(0, 0, 3), 0);
    }

    private static void state() {
        promise = 5;
        HerbKey x = seen();
        well("least", x, x.state(0, 3, -128), -128);
        well("read", x, x.read(0, 0, 3), -128);
        well("greatest", x, x.state(0, 3, 127), 127);
        well("-1 is no refusal", x, x.state(0, 2, -1), -1);
        refused("128", x, x.state(0, 3, 128), 5);
        refused("-129", x, x.state(0, 3, -129), 5);
        refused("place 4", x, x.state(0, 4, 128), 3);
        refused("place -1", x, x.state(0, -1, 0), 3);
        refused("place least", x, x.state(0, MIN, 0), 3);
        refused("row missing", x, x.state(1, 0, 0), 3);
        refused("sheet", x, x.state(2, 9, 999), 2);
        well("kept", x, x.read(0, 0, 3), 127);
        well("others kept", x, x.read(0, 0, 0), 1);
    }

    private static void measure() {
        promise = 6;
        HerbKey x = seen();
        x.row(0, 1, 2);
        well("greatest", x, x.measure(0, 0, 16777216, 100), 16777216);
        well("least", x, x.measure(0, 1, -16777216, -20), -16777216);
        well("read", x, x.read(0, 1, 1), -128);
        well("-1", x, x.measure(0, 1, -1, 0), -1);
        refused("n", x, x.measure(0, 1, 16777217, 0), 5);
        refused("-n", x, x.measure(0, 1, -16777217, 0), 5);
        refused("least n", x, x.measure(0, 1, MIN, 0), 5);
        refused("e 101", x, x.measure(0, 1, 1, 101), 5);
        refused("e -21", x, x.measure(0, 1, 1, -21), 5);
        refused("place", x, x.measure(0, 2, 1, 101), 3);
        refused("place -1", x, x.measure(0, -1, 1, 0), 3);
        refused("row", x, x.measure(1, 0, 1, 0), 3);
        refused("sheet", x, x.measure(-1, 2, 1, 101), 2);
        well("kept", x, x.read(0, 1, 1), -8);
    }

    private static void lack() {
        promise = 7;
        HerbKey x = seen();
        x.row(0, 1, 1);
        well("none", x, x.lack(0, 0, 0), 0);
        well("read none", x, x.read(0, 1, 0), 0);
        well("above", x, x.lack(0, 0, 1), 1);
        well("read above", x, x.read(0, 1, 0), Long.MAX_VALUE);
        well("below", x, x.lack(0, 0, 2), 2);
        well("read below", x, x.read(0, 1, 0), Long.MIN_VALUE);
        refused("how 3", x, x.lack(0, 0, 3), 5);
        refused("how -1", x, x.lack(0, 0, -1), 5);
        refused("place", x, x.lack(0, 1, 3), 3);
        refused("row", x, x.lack(1, 0, 0), 3);
        refused("sheet", x, x.lack(9, 1, 3), 2);
    }

    private static void code() {
        promise = 8;
        HerbKey x = seen();
        x.row(0, 2, 2);
        well("greatest", x, x.code(0, 1, 65535), 65535);
        well("read", x, x.read(0, 2, 1), 65535);
        well("least", x, x.code(0, 1, 0), 0);
        refused("65536", x, x.code(0, 1, 65536), 5);
        refused("-1", x, x.code(0, 1, -1), 5);
        refused("place", x, x.code(0, 2, -1), 3);
        refused("row", x, x.code(1, 0, 1), 3);
        refused("sheet", x, x.code(40, 0, 1), 2);
    }

    private static void read() {
        promise = 9;
        HerbKey x = seen();
        x.row(0, 1, 3);
        int[][] of = {{1, -3}, {1, -4}, {-15, -4}, {-17, -4}, {7, 0}, {1, 59}, {1, 60}, {-1, 60}, {-1, 61}, {16777215, 36}, {0, 100}};
        long[] due = {1, 0, -7, -8, 56, 1L << 62, Long.MAX_VALUE, Long.MIN_VALUE, Long.MIN_VALUE, 16777215L << 39, 0};
        for (int i = 0; i < of.length; i++) {
            x.measure(0, 0, of[i][0], of[i][1]);
            well("8 times " + of[i][0] + " * 2 ^ " + of[i][1], x, x.read(0, 1, 0), due[i]);
        }
        refused("kind 3", x, x.read(0, 3, 0), 3);
        refused("kind -1", x, x.read(0, -1, 0), 3);
        refused("place", x, x.read(0, 1, 3), 3);
        refused("place -1", x, x.read(0, 1, -1), 3);
        refused("row", x, x.read(0, 2, 0), 3);
        refused("sheet", x, x.read(2, 7, 0), 2);
        is("no change", x.changes(), 17);
    }

    private static void merge() {
        promise = 10;
        HerbKey x = new HerbKey();
        x.sheet();
        x.sheet();
        x.row(1, 0, 2);
        x.state(1, 1, 5);
        x.row(1, 1, 3);
        x.measure(1, 0, 3, 0);
        x.lack(1, 1, 1);
        x.lack(1, 2, 0);
        x.row(0, 1, 5);
        for (int p = 0; p < 5; p++) x.lack(0, p, 0);
        well("a row, a number, an endless one", x, x.merge(0, 1), 3);
        is("state", x.read(0, 0, 1), 5);
        is("measure", x.read(0, 1, 0), 24);
        is("endless", x.read(0, 1, 1), Long.MAX_VALUE);
        is("none stays", x.read(0, 1, 2), 0);
        refused("codes lack in both", x, x.read(0, 2, 0), 3);
        x.state(1, 1, 6);
        is("a row of its own", x.read(0, 0, 1), 5);
        well("again", x, x.merge(0, 1), 0);
        is("a change, too", x.changes(), 17);
        well("with itself", x, x.merge(1, 1), 0);
        x.undo(); x.undo(); x.undo(); x.undo();
        is("taken back", x.read(0, 1, 0), 0);
        x.row(0, 1, -1);
        x.row(1, 2, 0);
        well("rows without places, too", x, x.merge(0, 1), 3);
        is("whole row", x.read(0, 1, 0), 24);
        x.measure(0, 0, 9, 0);
        is("of b stays", x.read(1, 1, 0), 24);
        refused("a", x, x.merge(2, 0), 2);
        refused("b", x, x.merge(0, -1), 2);
    }

    private static void key() {
        promise = 11;
        HerbKey x = new HerbKey();
        refused("kind 5", x, x.key(5), 5);
        refused("kind -1", x, x.key(-1), 5);
        for (int i = 0; i < 40; i++) well("key", x, x.key(i % 5), i);
        x.drop(7);
        refused("41st", x, x.key(0), 8);
        refused("kind ahead of many", x, x.key(9), 5);
        is("joined of none", x.names(4, 0), 0);
        is("no couplets", x.depth(0), 0);
    }

    private static void drop() {
        promise = 12;
        HerbKey x = new HerbKey();
        x.key(0);
        x.key(2);
        well("drop", x, x.drop(0), 1);
        refused("again", x, x.drop(0), 1);
        refused("none", x, x.drop(2), 1);
        refused("-1", x, x.drop(-1), 1);
        refused("greatest", x, x.drop(MAX), 1);
        well("number not used again", x, x.key(3), 2);
        refused("is none", x, x.names(0, 0), 1);
        well("drop", x, x.drop(1), 1);
        well("drop", x, x.drop(2), 0);
    }

    private static void couplet() {
        promise = 13;
        HerbKey x = keyed(0, 0);
        x.key(4);
        for (int c = 0; c < 40; c++) well("couplet", x, x.couplet(0, 0, c, 1, 0), c);
        refused("41st", x, x.couplet(0, 0, 0, 1, 0), 8);
        refused("number ahead of many", x, x.couplet(0, 0, 0, 1, 1), 5);
        refused("many ahead of ring", x, x.couplet(0, 7, 0, 1, 0), 8);
        refused("joined", x, x.couplet(1, 9, 99, 1, 0), 4);
        refused("key", x, x.couplet(2, 9, 99, 1, 0), 1);
        refused("ask 9", x, x.couplet(0, 9, 0, 0, 0), 5);
        refused("ask -1", x, x.couplet(0, -1, 0, 0, 0), 5);
        is("changes", x.changes(), 47);
        ringsOfKeys();
    }

    private static void ringsOfKeys() {
        HerbKey x = new HerbKey();
        for (int i = 0; i < 3; i++) x.key(2);
        refused("itself", x, x.couplet(0, 7, 0, 1, 0), 6);
        refused("itself by score", x, x.couplet(0, 8, 0, 1, 0), 6);
        well("a key that will be", x, x.couplet(0, 7, 3, 1, 0), 0);
        well("0 asks 1", x, x.couplet(0, 7, 1, 1, 0), 1);
        well("1 asks 2", x, x.couplet(1, 8, 2, 1, 0), 0);
        refused("2 asks 0", x, x.couplet(2, 7, 0, 1, 0), 6);
        well("key 3", x, x.key(1), 3);
        refused("3 asks 0", x, x.couplet(3, 8, 0, 1, 0), 6);
        x.drop(1);
        well("no ring through one that is none", x, x.couplet(2, 7, 0, 1, 0), 0);
        x.undo();
        x.undo();
        refused("a ring again", x, x.couplet(2, 7, 0, 1, 0), 6);
    }

    private static void coupletNumbers() {
        promise = 13;
        HerbKey x = keyed(3, 0);
        int[][] fine = {{0, -1, -128, 0}, {0, 60, 127, 0}, {1, 0, 0, 0}, {1, 0, 65535, 0},
            {2, 0, -16777216, -20}, {2, 0, 16777216, 100}, {3, 0, MIN, -20}, {3, 0, MAX, 100},
            {4, 0, 1, -20}, {4, 0, 16777216, 100}, {5, 0, 1, -1000000}, {5, 0, 1000000, 1000000},
            {6, 0, MIN, 0}, {6, 0, MAX, 32}, {7, -1, 0, 0}, {7, 60, 63, 0}, {8, -1, 0, -400}, {8, 60, 63, 400}};
        for (int i = 0; i < fine.length; i++) {
            int[] c = fine[i];
            well("couplet " + i, x, x.couplet(0, c[0], c[1], c[2], c[3]), i);
        }
        int[][] wrongOnes = {{0, -2, 0, 0}, {0, 61, 0, 0}, {0, 0, -129, 0}, {0, 0, 128, 0}, {0, 0, 0, 1},
            {1, 0, -1, 0}, {1, 0, 65536, 0}, {1, 0, 1, -1}, {2, 0, -16777217, 0}, {2, 0, 16777217, 0},
            {2, 0, 0, -21}, {2, 0, 0, 101}, {3, 0, 0, -21}, {3, 0, 0, 101}, {3, -2, 0, 0},
            {4, 0, 0, 0}, {4, 0, 16777217, 0}, {4, 0, 1, -21}, {4, 0, 1, 101}, {5, 0, 0, 0}, {5, 0, 1000001, 0},
            {5, 0, 1, -1000001}, {5, 0, 1, 1000001}, {6, 0, 0, -1}, {6, 0, 0, 33}, {6, 61, 0, 0},
            {7, 1, -1, 0}, {7, 1, 64, 0}, {7, 1, 0, 1}, {7, -2, 0, 0}, {7, 61, 0, 0}, {8, 1, -1, 0}, {8, 1, 64, 0},
            {8, 1, 0, -401}, {8, 1, 0, 401}, {8, MIN, 0, 0}};
        for (int[] c : wrongOnes) {
            refused("ask " + c[0] + " " + c[1] + " " + c[2] + " " + c[3], x, x.couplet(0, c[0], c[1], c[2], c[3]), 5);
        }
    }

    private static void lead() {
        promise = 14;
        HerbKey x = keyed(1, 4);
        x.key(2);
        x.couplet(1, 0, 0, 0, 0);
        well("to a couplet", x, x.lead(0, 0, true, 2), 2);
        well("to a name", x, x.lead(0, 0, false, 163), 163);
        well("name 0", x, x.lead(0, 2, false, 100), 100);
        well("nowhere", x, x.lead(0, 2, false, -1), -1);
        well("2 to 1", x, x.lead(0, 2, true, 1), 1);
        refused("to itself", x, x.lead(0, 1, true, 1), 6);
        refused("a ring", x, x.lead(0, 1, false, 0), 6);
        well("3 to 0 is none", x, x.lead(0, 3, false, 0), 0);
        refused("a ring of couplets never come to", x, x.lead(0, 1, false, 3), 6);
        refused("to no couplet", x, x.lead(0, 1, true, 4), 3);
        refused("to 99", x, x.lead(0, 1, true, 99), 3);
        refused("to 164", x, x.lead(0, 1, true, 164), 3);
        refused("to -2", x, x.lead(0, 1, true, -2), 3);
        refused("to least", x, x.lead(0, 1, true, MIN), 3);
        refused("of no couplet", x, x.lead(0, 4, true, 100), 3);
        refused("of -1", x, x.lead(0, -1, true, 100), 3);
        refused("table", x, x.lead(1, 9, true, 100), 4);
        refused("key", x, x.lead(2, 9, true, 100), 1);
        well("the old lead goes", x, x.lead(0, 2, true, 101), 101);
        well("no ring any more", x, x.lead(0, 1, false, 0), 0);
    }

    private static void join() {
        promise = 15;
        HerbKey x = new HerbKey();
        x.key(4);
        x.key(4);
        x.key(0);
        x.key(2);
        x.couplet(3, 7, 2, 1, 0);
        well("one twice", x, x.join(1, 2, 2), 1);
        well("through others, each once", x, x.join(1, 2, 3), 2);
        well("0 asks all", x, x.join(0, 1, 3), 3);
        refused("itself", x, x.join(0, 0, 1), 6);
        refused("itself second", x, x.join(0, 1, 0), 6);
        refused("through others", x, x.join(1, 2, 0), 6);
        refused("not joined", x, x.join(2, 0, 1), 4);
        refused("no first", x, x.join(2, 9, 1), 1);
        refused("no second", x, x.join(0, 1, -1), 1);
        refused("no key", x, x.join(7, 0, 1), 1);
        x.drop(2);
        well("those that are there", x, x.join(0, 1, 3), 2);
    }

    private static void region() {
        promise = 16;
        HerbKey x = tree(1);
        x.key(0);
        well("all but 10", x, x.region(0, ~(1L << 10)), 63);
        is("not given", x.names(0, 0), 0);
        well("10 alone", x, x.region(0, 1L << 10), 1);
        is("given", x.names(0, 0), 1);
        x.lead(0, 1, true, 100);
        is("name 0 is not in it", x.names(0, 0), 0);
        well("name 0 alone", x, x.region(0, 1), 1);
        is("given", x.names(0, 0), 1);
        well("none", x, x.region(0, 0), 0);
        well("all", x, x.region(0, -1L), 64);
        well("63", x, x.region(0, Long.MIN_VALUE), 1);
        refused("branching", x, x.region(1, 1), 4);
        refused("key", x, x.region(2, 1), 1);
    }

    private static void want() {
        promise = 17;
        HerbKey x = keyed(2, 2);
        x.key(0);
        x.couplet(1, 0, 0, 0, 0);
        well("yes", x, x.want(0, 63, 0, 1), 1);
        well("no", x, x.want(0, 63, 1, 0), 0);
        is("not given", x.names(0, 0), 0);
        well("yes for no", x, x.want(0, 63, 1, 1), 1);
        is("given", x.names(0, 0), 1);
        well("any", x, x.want(0, 63, 1, 2), 2);
        well("any", x, x.want(0, 63, 0, 2), 2);
        is("not known", x.names(0, 0), 0);
        refused("w 3", x, x.want(0, 0, 0, 3), 5);
        refused("w -1", x, x.want(0, 0, 0, -1), 5);
        refused("name", x, x.want(0, 64, 0, 3), 3);
        refused("name -1", x, x.want(0, -1, 0, 1), 3);
        refused("couplet", x, x.want(0, 0, 2, 3), 3);
        refused("couplet -1", x, x.want(0, 0, -1, 1), 3);
        refused("branching", x, x.want(1, 64, 0, 3), 4);
        refused("key", x, x.want(2, 64, 0, 3), 1);
    }

    private static void weigh() {
        promise = 18;
        HerbKey x = keyed(3, 2);
        x.key(2);
        x.couplet(1, 0, 0, 0, 0);
        x.want(0, 5, 0, 0);
        x.slack(0, 8);
        is("first 1", x.score(0, 0, 5), -1);
        well("9", x, x.weigh(0, 0, 9), 9);
        is("score", x.score(0, 0, 5), -9);
        is("beyond slack", x.names(0, 0), 0);
        well("0", x, x.weigh(0, 0, 0), 0);
        is("within slack", x.names(0, 0), 1);
        refused("10", x, x.weigh(0, 0, 10), 5);
        refused("-1", x, x.weigh(0, 0, -1), 5);
        refused("couplet", x, x.weigh(0, 2, 10), 3);
        refused("couplet -1", x, x.weigh(0, -1, 1), 3);
        refused("table", x, x.weigh(1, 9, 10), 4);
        refused("key", x, x.weigh(2, 9, 10), 1);
    }

    private static void slack() {
        promise = 19;
        HerbKey x = keyed(3, 1);
        x.key(2);
        x.want(0, 5, 0, 0);
        is("first 0", x.names(0, 0), 0);
        well("1", x, x.slack(0, 1), 1);
        is("given", x.names(0, 0), 1);
        well("99", x, x.slack(0, 99), 99);
        well("0", x, x.slack(0, 0), 0);
        refused("100", x, x.slack(0, 100), 5);
        refused("-1", x, x.slack(0, -1), 5);
        refused("table", x, x.slack(1, 100), 4);
        refused("key", x, x.slack(2, 100), 1);
    }

    private static void learn() {
        promise = 20;
        HerbKey x = keyed(2, 6);
        x.key(0);
        x.want(0, 9, 5, 1);
        well("four of six are answered", x, x.learn(0, 0, 9), 4);
        is("given", x.sure(0, 0), 9);
        x.state(0, 2, 1);
        is("wants what was seen then", x.names(0, 0), 0);
        x.state(0, 2, 0);
        x.state(0, 0, 0);
        is("each of them", x.names(0, 0), 0);
        well("of a sheet that is none", x, x.learn(0, 77, 9), 0);
        is("not known", x.names(0, 77), 0);
        x.undo();
        is("taken back", x.names(0, 77), 1);
        refused("name", x, x.learn(0, 0, 64), 3);
        refused("name -1", x, x.learn(0, 0, -1), 3);
        refused("branching", x, x.learn(1, 0, 64), 4);
        refused("key", x, x.learn(2, 0, 64), 1);
    }

    private static void ask() {
        promise = 21;
        HerbKey x = keyed(0, 5);
        x.key(4);
        well("yes", x, x.ask(0, 0, 0), 1);
        well("no", x, x.ask(0, 0, 2), 0);
        well("unknown", x, x.ask(0, 0, 4), 2);
        well("no sheet", x, x.ask(0, -5, 0), 2);
        refused("couplet", x, x.ask(0, 0, 5), 3);
        refused("couplet -1", x, x.ask(0, 0, -1), 3);
        refused("joined", x, x.ask(1, 0, 0), 3);
        refused("key", x, x.ask(2, 0, 9), 1);
        x.row(0, 2, 1);
        x.code(0, 0, 65535);
        x.couplet(0, 1, 0, 65535, 0);
        is("code", x.ask(0, 0, 5), 1);
        x.code(0, 0, 1);
        is("code", x.ask(0, 0, 5), 0);
        askKeys();
    }

    private static void askKeys() {
        HerbKey x = tree(0);
        x.key(3);
        x.couplet(1, 7, 0, 10, 0);
        x.couplet(1, 7, 0, 11, 0);
        is("gives it surely", x.ask(1, 0, 0), 1);
        is("does not give it", x.ask(1, 0, 1), 0);
        x.row(0, 0, 1);
        x.state(0, 0, 1);
        is("not sure", x.ask(1, 0, 0), 2);
        x.want(1, 3, 1, 1);
        x.key(2);
        x.couplet(2, 8, 1, 3, 0);
        x.couplet(2, 8, 1, 3, -1);
        is("a score is told even if unknown", x.ask(2, 0, 0), 1);
        x.row(0, 0, 2);
        x.state(0, 0, 1);
        x.state(0, 1, 1);
        is("score -1 is not 0 or more", x.ask(2, 0, 0), 0);
        is("score -1 is -1 or more", x.ask(2, 0, 1), 1);
        is("no sheet, no score", x.ask(2, 5, 1), 2);
    }

    /** What is asked of a measure n * 2 ^ e, of couplet ask, q, r. */
    private static void answer(int n, int e, int ask, int q, int r, int due) {
        HerbKey x = new HerbKey();
        x.sheet();
        x.row(0, 1, 1);
        x.measure(0, 0, n, e);
        x.key(0);
        x.couplet(0, ask, 0, q, r);
        is(n + " * 2 ^ " + e + ", ask " + ask + " " + q + " " + r, x.ask(0, 0, 0), due);
    }

    private static void askMeasures() {
        promise = 21;
        answer(13, -2, 2, 7, -1, 1);
        answer(14, -2, 2, 7, -1, 0);
        answer(14, -2, 3, 7, -1, 1);
        answer(16777216, 100, 2, 16777216, 99, 0);
        answer(-16777216, 100, 2, -16777216, 99, 1);
        answer(1, -20, 3, 0, 100, 0);
        answer(-1, -20, 2, 0, 100, 1);
        answer(0, 100, 2, 1, -20, 1);
        answer(0, 100, 3, -1, -20, 0);
        answer(16777216, 7, 3, MAX, 0, 0);
        answer(16777215, 7, 3, MAX, 0, 1);
        answer(-16777216, 7, 3, MIN, 0, 1);
        answer(1, 100, 3, MAX, 100, 1);
        answer(1, 100, 3, MAX, -20, 0);
        answer(1, -20, 2, 16777216, 100, 1);
        answer(0, 0, 4, 16777216, 100, 1);
        answer(-12, 3, 4, 3, 5, 1);
        answer(-12, 3, 4, 3, 6, 0);
        answer(7, 100, 4, 7, 100, 1);
        answer(7, 100, 4, 14, 99, 1);
        answer(1, 100, 4, 3, -20, 0);
        answer(3, -20, 4, 1, -20, 1);
        answer(-7, 0, 5, 4, -3, 1);
        answer(-7, 0, 5, 4, -2, 0);
        answer(7, 0, 5, 4, 3, 1);
        answer(7, 0, 5, 4, 4, 0);
        answer(15, -1, 5, 7, 0, 1);
        answer(15, -1, 5, 7, 1, 0);
        answer(-15, -1, 5, 7, 0, 0);
        answer(-15, -1, 5, 7, -1, 1);
        answer(1, 100, 5, 1000000, 205376, 1);
        answer(1, 100, 5, 1000000, 205377, 0);
        answer(0, 0, 5, 1, 0, 1);
        answer(-8, 0, 5, 4, 0, 1);
        answer(-15, -1, 6, -7, 0, 1);
        answer(-16, -1, 6, -7, 0, 0);
        answer(15, -1, 6, 7, 0, 1);
        answer(15, -1, 6, 8, 0, 0);
        answer(1, 100, 6, MAX, 32, 1);
        answer(-1, 100, 6, MIN, 32, 1);
        answer(-1, 100, 6, MIN + 1, 32, 0);
        answer(1, 32, 6, 1, 32, 1);
        answer(1, 31, 6, 1, 32, 0);
    }

    private static void cause() {
        promise = 22;
        HerbKey x = new HerbKey();
        x.sheet();
        x.key(0);
        x.key(3);
        x.key(4);
        x.couplet(1, 0, 0, 1, 0);
        x.couplet(0, 2, 0, 1, 0);
        x.couplet(0, 7, 9, 1, 0);
        x.couplet(0, 8, 2, 1, 0);
        x.couplet(0, 7, 1, 4, 0);
        x.couplet(0, 8, 1, 4, 0);
        x.couplet(0, 0, -1, 4, 0);
        for (int c = 0; c < 6; c++) well("no sheet, whatever is asked", x, x.cause(0, 1, c), 1);
        well("row missing", x, x.cause(0, 0, 0), 2);
        x.row(0, 1, 0);
        well("no place", x, x.cause(0, 0, 0), 3);
        x.row(0, 1, 1);
        well("no", x, x.cause(0, 0, 0), 0);
        x.lack(0, 0, 0);
        well("none", x, x.cause(0, 0, 0), 4);
        x.lack(0, 0, 1);
        well("above", x, x.cause(0, 0, 0), 5);
        x.lack(0, 0, 2);
        well("below", x, x.cause(0, 0, 0), 5);
        well("no key", x, x.cause(0, 0, 1), 6);
        well("not weighted", x, x.cause(0, 0, 2), 7);
        x.drop(2);
        well("no key any more", x, x.cause(0, 0, 2), 6);
        well("not given is no", x, x.cause(0, 0, 3), 0);
        x.want(1, 4, 0, 1);
        well("not sure", x, x.cause(0, 0, 3), 8);
        well("a score is known", x, x.cause(0, 0, 4), 0);
        well("place -1, row missing", x, x.cause(0, 0, 5), 2);
        x.row(0, 0, 40);
        well("place -1", x, x.cause(0, 0, 5), 3);
        well("given", x, x.cause(0, 0, 3), 0);
        refused("couplet", x, x.cause(0, 0, 6), 3);
        refused("couplet -1", x, x.cause(0, 0, -1), 3);
        refused("key", x, x.cause(3, 0, 6), 1);
        for (int i = 0; i < 3; i++) x.undo();
        refused("joined", x, x.cause(2, 0, 0), 3);
    }

    private static void names() {
        promise = 23;
        HerbKey x = tree(0);
        well("one", x, x.names(0, 0), 1);
        is("it", x.name(0), 10);
        well("all", x, x.names(0, 1), 4);
        for (int i = 0; i < 4; i++) {
            is("the lesser name first", x.name(i), 10 + i);
            is("unknowns", x.unknowns(i), 2);
        }
        x.lead(0, 0, false, 112);
        well("a shorter way", x, x.names(0, 1), 3);
        is("fewer unknowns first", x.name(0), 12);
        is("fewer unknowns first", x.unknowns(0), 1);
        is("then", x.name(1), 10);
        refused("key", x, x.names(1, 0), 1);
        is("the row stays", x.name(0), 12);
        x.key(0);
        well("none without couplet 0", x, x.names(1, 0), 0);
        refused("no name", x, x.name(0), 3);
        x.lead(0, 0, true, -1);
        well("nowhere", x, x.names(0, 0), 0);
        is("no change", x.changes(), 18);
        namesOfTables();
        namesOfJoined();
    }

    private static void namesOfTables() {
        HerbKey x = keyed(2, 5);
        x.want(0, 1, 0, 1);
        x.want(0, 1, 4, 0);
        x.want(0, 2, 0, 0);
        x.want(0, 3, 2, 0);
        well("as wanted or unknown", x, x.names(0, 0), 2);
        is("0 unknowns", x.name(0), 3);
        is("1 unknown", x.name(1), 1);
        is("1 unknown", x.unknowns(1), 1);
        x = keyed(3, 5);
        x.want(0, 1, 0, 0);
        x.want(0, 1, 1, 0);
        x.want(0, 1, 4, 0);
        x.slack(0, 1);
        is("amiss beyond slack", x.names(0, 0), 0);
        x.slack(0, 2);
        is("amiss within slack", x.names(0, 0), 1);
        is("unknown ones count", x.unknowns(0), 1);
    }

    private static void namesOfJoined() {
        HerbKey x = tree(0);
        x.key(2);
        x.couplet(1, 0, 9, 1, 0);
        x.want(1, 10, 0, 1);
        x.want(1, 5, 0, 1);
        x.key(4);
        x.join(2, 1, 0);
        well("of both", x, x.names(2, 0), 2);
        is("the lesser number", x.name(0), 10);
        is("the lesser number", x.unknowns(0), 0);
        is("the other", x.name(1), 5);
        x.drop(0);
        well("one is none", x, x.names(2, 0), 2);
        is("unknowns", x.unknowns(1), 1);
        x.drop(1);
        well("both are none", x, x.names(2, 0), 0);
    }

    private static void name() {
        promise = 24;
        HerbKey x = tree(0);
        x.names(0, 1);
        well("first", x, x.name(0), 10);
        well("last", x, x.name(3), 13);
        refused("none", x, x.name(4), 3);
        refused("-1", x, x.name(-1), 3);
        refused("64", x, x.name(64), 3);
        refused("greatest", x, x.name(MAX), 3);
        x.undo();
        well("stays", x, x.name(3), 13);
    }

    private static void unknowns() {
        promise = 25;
        HerbKey x = tree(0);
        x.lead(0, 0, true, 104);
        x.names(0, 1);
        well("first", x, x.unknowns(0), 1);
        well("second", x, x.unknowns(1), 2);
        refused("none", x, x.unknowns(3), 3);
        refused("-1", x, x.unknowns(-1), 3);
        refused("least", x, x.unknowns(MIN), 3);
    }

    private static void pick() {
        promise = 26;
        HerbKey x = tree(0);
        x.names(0, 0);
        refused("no name 1", x, x.pick(1), 3);
        refused("-1", x, x.pick(-1), 3);
        refused("no proof yet", x, x.proof(-1), 7);
        well("two entries", x, x.pick(0), 2);
        is("0 yes", x.proof(0), 1);
        is("1 yes", x.proof(1), 5);
        x.state(0, 0, 0);
        refused("not given any more", x, x.pick(0), 7);
        is("the proof stays", x.proof(1), 5);
        x.row(0, 0, -1);
        well("by all as it is now", x, x.pick(0), 2);
        is("0 taken as yes", x.proof(0), 3);
        x.drop(0);
        refused("no key", x, x.pick(0), 7);
        refused("3 ahead of 7", x, x.pick(1), 3);
        x.undo();
        well("again", x, x.pick(0), 2);
        x = keyed(3, 5);
        x.want(0, 1, 0, 0);
        x.want(0, 1, 2, 0);
        x.want(0, 1, 4, 0);
        x.slack(0, 9);
        x.names(0, 0);
        well("all wanted", x, x.pick(0), 3);
        is("not as wanted", x.proof(0), 1);
        is("as wanted", x.proof(1), 8);
        is("unknown, as wanted", x.proof(2), 18);
        x.want(0, 1, 4, 1);
        x.pick(0);
        is("unknown, as wanted", x.proof(2), 19);
    }

    private static void pickWays() {
        promise = 26;
        HerbKey x = keyed(0, 4);
        x.row(0, 0, 0);
        x.lead(0, 0, true, 1);
        x.lead(0, 0, false, 2);
        x.lead(0, 1, true, 3);
        x.lead(0, 1, false, 107);
        x.lead(0, 2, true, 107);
        x.lead(0, 3, true, 107);
        x.names(0, 0);
        is("fewest", x.unknowns(0), 2);
        well("yes where they part first", x, x.pick(0), 2);
        is("yes", x.proof(0), 3);
        is("no", x.proof(1), 6);
        x.lead(0, 0, false, 107);
        well("fewer unknowns ahead of yes", x, x.pick(0), 1);
        is("no", x.proof(0), 2);
        x.lead(0, 0, true, 107);
        well("both ways to it", x, x.pick(0), 1);
        is("yes", x.proof(0), 3);
        x = keyed(0, 5);
        x.row(0, 0, 4);
        for (int c = 0; c < 4; c++) x.lead(0, c, false, c + 1);
        x.lead(0, 3, false, 107);
        x.names(0, 0);
        well("by no", x, x.pick(0), 4);
        is("no", x.proof(3), 12);
        fewestUnknowns();
        sources();
    }

    /** A longer way with one UNKNOWN, by NO, and a shorter one with two, by YES. */
    private static void fewestUnknowns() {
        HerbKey x = seen();
        x.key(0);
        int[] places = {9, 9, 0, 1, 0};
        for (int p : places) x.couplet(0, 0, p, 1, 0);
        x.lead(0, 0, true, 1);
        x.lead(0, 1, true, 100);
        x.lead(0, 0, false, 2);
        x.lead(0, 2, true, 3);
        x.lead(0, 3, true, 4);
        x.lead(0, 4, true, 100);
        x.names(0, 0);
        is("one unknown", x.unknowns(0), 1);
        well("the longer way", x, x.pick(0), 4);
        int[] entries = {2, 9, 13, 17};
        for (int j = 0; j < 4; j++) is("entry", x.proof(j), entries[j]);
        well("right", x, x.check(), 1);
    }

    private static void sources() {
        HerbKey x = tree(0);
        x.key(2);
        x.couplet(1, 0, 0, 1, 0);
        x.want(1, 10, 0, 1);
        x.key(4);
        x.key(4);
        x.join(2, 0, 1);
        x.join(3, 2, 1);
        x.names(3, 0);
        x.pick(0);
        is("the first, as few", x.proof(-1), 0);
        x.row(0, 0, 1);
        x.state(0, 0, 1);
        x.names(3, 0);
        x.pick(0);
        is("the second has fewer", x.proof(-1), 1);
        x.drop(1);
        x.pick(0);
        is("the second does not give it", x.proof(-1), 0);
        x.undo();
        x.drop(0);
        x.pick(0);
        is("the first does not give it", x.proof(-1), 1);
    }

    private static void proof() {
        promise = 27;
        HerbKey x = tree(1);
        refused("none taken", x, x.proof(-9), 7);
        x.names(0, -1);
        x.pick(3);
        well("source", x, x.proof(-1), 0);
        well("sheet, -1", x, x.proof(-2), -1);
        well("name", x, x.proof(-3), 13);
        well("entry", x, x.proof(0), 2);
        well("entry", x, x.proof(1), 10);
        refused("-4", x, x.proof(-4), 3);
        refused("2", x, x.proof(2), 3);
        refused("least", x, x.proof(MIN), 3);
        x.drop(0);
        well("stays", x, x.proof(1), 10);
    }

    private static void forge() {
        promise = 28;
        HerbKey x = tree(0);
        refused("none taken", x, x.forge(9, 999), 7);
        x.names(0, 0);
        x.pick(0);
        well("0", x, x.forge(1, 0), 0);
        well("255", x, x.forge(1, 255), 255);
        is("entry", x.proof(1), 255);
        well("wrong", x, x.check(), 0);
        refused("256", x, x.forge(1, 256), 5);
        refused("-1", x, x.forge(1, -1), 5);
        refused("entry 2", x, x.forge(2, 256), 3);
        refused("entry -1", x, x.forge(-1, 1), 3);
        is("no change", x.changes(), 15);
        x.pick(0);
        is("anew", x.proof(1), 5);
    }

    private static void check() {
        promise = 29;
        HerbKey x = tree(1);
        refused("none taken", x, x.check(), 7);
        x.names(0, 0);
        x.pick(0);
        well("right", x, x.check(), 1);
        x.forge(0, 3);
        well("3, but it is known", x, x.check(), 0);
        x.forge(0, 0);
        well("0, but it is yes", x, x.check(), 0);
        x.forge(0, 5);
        well("not from 0", x, x.check(), 0);
        x.forge(0, 13);
        well("no such couplet", x, x.check(), 0);
        x.forge(0, 1);
        x.region(0, ~(1L << 10));
        well("beyond the region", x, x.check(), 0);
        x.undo();
        x.lead(0, 1, true, 111);
        well("leads elsewhere", x, x.check(), 0);
        x.lead(0, 1, true, 2);
        well("not far enough", x, x.check(), 0);
        x.undo();
        x.undo();
        well("right again", x, x.check(), 1);
        x.lose(0);
        well("1, but unknown", x, x.check(), 0);
        x.forge(0, 3);
        x.forge(1, 7);
        well("taken as yes", x, x.check(), 1);
        x.forge(0, 2);
        well("another way", x, x.check(), 0);
        x.forge(0, 3);
        x.drop(0);
        well("source is none", x, x.check(), 0);
        x.undo();
        well("is there", x, x.check(), 1);
        x.drop(0);
        x.key(4);
        well("none still", x, x.check(), 0);
        for (int i = x.changes(); i > 5; i--) x.undo();
        x.key(4);
        well("a joined one of its number", x, x.check(), 0);
        checkMarks();
    }

    /** Both leads go to the name, so that marks alone decide. */
    private static void checkMarks() {
        int[][] due = {{1, 0, 0, 0}, {0, 1, 0, 0}, {0, 0, 1, 1}};
        for (int answer = 0; answer < 3; answer++) {
            HerbKey x = keyed(0, 1);
            x.lead(0, 0, true, 100);
            x.lead(0, 0, false, 100);
            x.state(0, 0, answer);
            if (answer == 2) x.row(0, 0, 0);
            x.names(0, 0);
            well("pick", x, x.pick(0), 1);
            well("right", x, x.check(), 1);
            for (int mark = 0; mark < 4; mark++) {
                x.forge(0, mark);
                well("answer " + answer + ", mark " + mark, x, x.check(), due[answer][mark]);
            }
            x.forge(0, 4);
            well("no couplet 1", x, x.check(), 0);
        }
    }

    private static void checkTables() {
        promise = 29;
        HerbKey x = keyed(3, 5);
        x.want(0, 1, 0, 1);
        x.want(0, 1, 2, 1);
        x.want(0, 1, 4, 1);
        x.slack(0, 1);
        x.names(0, 0);
        x.pick(0);
        well("one amiss within slack", x, x.check(), 1);
        x.weigh(0, 2, 2);
        well("beyond slack", x, x.check(), 0);
        x.undo();
        x.slack(0, 99);
        x.forge(2, 18);
        well("taken, but not as wanted", x, x.check(), 0);
        x.forge(2, 17);
        well("1, but unknown", x, x.check(), 0);
        x.forge(2, 19);
        x.undo();
        x.forge(1, 5);
        well("one that is not wanted", x, x.check(), 0);
        x.forge(1, 8);
        well("right", x, x.check(), 1);
        x.want(0, 1, 3, 0);
        well("one more is wanted", x, x.check(), 0);
        x.undo();
        x.want(0, 1, 4, 2);
        well("one less is wanted", x, x.check(), 0);
        x.want(0, 1, 0, 2);
        x.want(0, 1, 2, 2);
        well("not known", x, x.check(), 0);
        x = keyed(2, 2);
        x.want(0, 1, 0, 1);
        x.names(0, 0);
        x.pick(0);
        well("right", x, x.check(), 1);
        x.want(0, 1, 0, 0);
        well("not as wanted", x, x.check(), 0);
    }

    private static void sure() {
        promise = 30;
        HerbKey x = tree(0);
        well("one alone", x, x.sure(0, 0), 10);
        well("several", x, x.sure(0, 1), BAD);
        x.lead(0, 1, true, 100);
        well("name 0", x, x.sure(0, 0), 0);
        x.undo();
        x.lead(0, 1, false, 110);
        x.lead(0, 2, true, 110);
        x.lead(0, 2, false, 110);
        well("one, with unknowns", x, x.sure(0, 1), BAD);
        x.lead(0, 1, true, -1);
        well("none", x, x.sure(0, 0), BAD);
        refused("key", x, x.sure(1, 0), 1);
        x.names(0, 1);
        x.undo();
        x.sure(0, 0);
        is("the row stays", x.unknowns(0), 2);
    }

    private static void score() {
        promise = 31;
        HerbKey x = keyed(3, 6);
        x.key(2);
        for (int c = 0; c < 6; c++) x.weigh(0, c, c + 1);
        x.want(0, 7, 0, 1);
        x.want(0, 7, 1, 0);
        x.want(0, 7, 2, 0);
        x.want(0, 7, 3, 1);
        x.want(0, 7, 4, 1);
        well("1 - 2 + 3 - 4", x, x.score(0, 0, 7), -2);
        x.want(0, 7, 3, 2);
        x.want(0, 7, 0, 2);
        x.weigh(0, 1, 4);
        well("-1 is no refusal", x, x.score(0, 0, 7), -1);
        well("no sheet", x, x.score(0, 9, 7), 0);
        well("not known", x, x.score(0, 0, 8), 0);
        refused("name", x, x.score(0, 0, 64), 3);
        refused("name -1", x, x.score(0, 0, -1), 3);
        refused("table", x, x.score(1, 0, 64), 4);
        refused("key", x, x.score(2, 0, 64), 1);
    }

    private static void next() {
        promise = 32;
        HerbKey x = tree(0);
        x.key(4);
        refused("none is unknown", x, x.next(0, 0), 7);
        well("0 halves them", x, x.next(0, 1), 0);
        x.row(0, 0, 2);
        x.state(0, 0, 1);
        x.state(0, 1, 1);
        well("one that is unknown, though it tells nothing", x, x.next(0, 0), 2);
        refused("joined", x, x.next(1, 0), 4);
        refused("key", x, x.next(2, 0), 1);
        x.key(2);
        for (int c = 0; c < 3; c++) x.couplet(2, 0, c, 1, 0);
        int[][] wants = {{1, 0, 0}, {0, 1, 0}, {0, 1, 1}, {0, 0, 1}};
        for (int n = 0; n < 4; n++) for (int c = 0; c < 3; c++) x.want(2, n, c, wants[n][c]);
        well("the first of the best", x, x.next(2, 5), 1);
        x.key(2);
        refused("no couplets", x, x.next(3, 0), 7);
    }

    private static void compare() {
        promise = 33;
        HerbKey x = keyed(0, 5);
        x.key(4);
        well("unknown is no difference", x, x.compare(0, 0, 1), 0);
        x.row(1, 0, 5);
        x.state(1, 1, 1);
        x.state(1, 2, 1);
        x.state(1, 4, 1);
        well("two", x, x.compare(0, 0, 1), 2);
        well("two", x, x.compare(0, 1, 0), 2);
        well("itself", x, x.compare(0, 0, 0), 0);
        well("no sheet", x, x.compare(0, 0, -4), 0);
        refused("joined", x, x.compare(1, 0, 1), 4);
        refused("key", x, x.compare(2, 0, 1), 1);
    }

    private static void unreached() {
        promise = 34;
        HerbKey x = tree(1);
        x.key(2);
        x.key(0);
        well("all are come to", x, x.unreached(0), 0);
        x.couplet(0, 0, 0, 0, 0);
        x.lead(0, 3, true, 0);
        well("one leads in, but none to it", x, x.unreached(0), 1);
        x.lead(0, 0, false, -1);
        well("two", x, x.unreached(0), 2);
        well("no couplets", x, x.unreached(2), 0);
        refused("table", x, x.unreached(1), 4);
        refused("key", x, x.unreached(3), 1);
    }

    private static void depth() {
        promise = 35;
        HerbKey x = tree(0);
        x.key(3);
        x.key(1);
        well("two", x, x.depth(0), 2);
        x.couplet(0, 0, 0, 0, 0);
        x.lead(0, 3, true, 0);
        well("from 0 on", x, x.depth(0), 2);
        x.lead(0, 3, true, -1);
        x.lead(0, 1, false, 2);
        x.lead(0, 2, true, 3);
        well("the most", x, x.depth(0), 4);
        well("no couplets", x, x.depth(2), 0);
        x.couplet(2, 0, 0, 0, 0);
        well("0 alone", x, x.depth(2), 1);
        refused("weighted", x, x.depth(1), 4);
        refused("key", x, x.depth(3), 1);
    }

    private static void parted() {
        promise = 36;
        HerbKey x = tree(1);
        x.key(4);
        well("two leaves", x, x.parted(0, 10, 13), 1);
        well("itself", x, x.parted(0, 10, 10), 0);
        well("one that it has not", x, x.parted(0, 63, 10), 1);
        well("two that it has not", x, x.parted(0, 63, 0), 0);
        x.region(0, 1L << 63);
        well("beyond the region", x, x.parted(0, 10, 11), 0);
        refused("name", x, x.parted(0, 64, 0), 3);
        refused("name", x, x.parted(0, 0, -1), 3);
        refused("joined", x, x.parted(1, 64, 0), 4);
        refused("key", x, x.parted(2, 64, 0), 1);
        x = keyed(2, 2);
        x.want(0, 1, 0, 1);
        x.want(0, 2, 0, 1);
        well("the same wants", x, x.parted(0, 1, 2), 0);
        x.want(0, 2, 1, 0);
        well("one wants more", x, x.parted(0, 1, 2), 1);
        well("one is not known", x, x.parted(0, 3, 2), 1);
        partedByWeight();
    }

    private static void partedByWeight() {
        HerbKey x = keyed(3, 4);
        x.weigh(0, 0, 5);
        x.weigh(0, 1, 3);
        for (int n = 1; n < 3; n++) {
            x.want(0, n, 0, 1);
            x.want(0, n, 1, 1);
        }
        x.want(0, 2, 2, 0);
        x.weigh(0, 2, 0);
        well("a weight of 0 tells nothing", x, x.parted(0, 1, 2), 0);
        x.weigh(0, 2, 1);
        well("slack 0", x, x.parted(0, 1, 2), 1);
        x.slack(0, 4);
        well("3 and 1 come to 4", x, x.parted(0, 1, 2), 0);
        x.slack(0, 3);
        well("3 and 1 are beyond 3", x, x.parted(0, 1, 2), 1);
        x.slack(0, 8);
        well("8 and 1 are beyond 8", x, x.parted(0, 1, 2), 1);
        x.slack(0, 9);
        well("all is let", x, x.parted(0, 1, 2), 0);
        well("not known", x, x.parted(0, 1, 3), 1);
    }

    private static void twins() {
        promise = 37;
        HerbKey x = tree(1);
        x.key(4);
        well("all parted", x, x.twins(0), 0);
        x.lead(0, 0, false, 120);
        well("two never come to", x, x.twins(0), 1);
        x.undo();
        x.region(0, 1L << 10);
        well("three beyond the region", x, x.twins(0), 3);
        x.couplet(0, 0, 0, 0, 0);
        x.lead(0, 3, true, 120);
        well("one never come to", x, x.twins(0), 6);
        x.lead(0, 3, false, 120);
        well("a name once", x, x.twins(0), 6);
        refused("joined", x, x.twins(1), 4);
        refused("key", x, x.twins(2), 1);
        x = keyed(2, 2);
        well("none", x, x.twins(0), 0);
        for (int n = 60; n < 64; n++) x.want(0, n, 0, 1);
        well("four alike", x, x.twins(0), 6);
        x.want(0, 63, 1, 1);
        well("three alike", x, x.twins(0), 3);
        x = keyed(3, 2);
        for (int n = 0; n < 3; n++) x.want(0, n, 0, n == 0 ? 0 : 1);
        well("two alike", x, x.twins(0), 1);
        x.slack(0, 1);
        well("all let", x, x.twins(0), 3);
    }

    private static void parts() {
        promise = 38;
        HerbKey x = keyed(2, 4);
        x.key(0);
        int[][] wants = {{0, 1, 2, 1}, {1, 0, 0, 1}};
        for (int n = 0; n < 2; n++) for (int c = 0; c < 4; c++) x.want(0, n, c, wants[n][c]);
        well("two", x, x.parts(0, 0, 1), 2);
        well("two", x, x.parts(0, 1, 0), 2);
        well("itself", x, x.parts(0, 0, 0), 0);
        well("not known", x, x.parts(0, 0, 2), 0);
        refused("name", x, x.parts(0, 0, 64), 3);
        refused("name", x, x.parts(0, -1, 0), 3);
        refused("branching", x, x.parts(1, -1, 0), 4);
        refused("key", x, x.parts(2, -1, 0), 1);
    }

    private static void trace() {
        promise = 39;
        HerbKey x = new HerbKey();
        int[][] bodies = {{1, 6, 0, 0}, {2, 6, 0, 0}, {3, 3, 0, 0}, {3, 4, 4, 0}, {5, 6, 6, 5}};
        for (int kind = 0; kind < 5; kind++) {
            x.key(kind);
            for (int act = 0; act < 4; act++) {
                well("kind " + kind + ", act " + act, x, x.trace(kind, act), bodies[kind][act]);
            }
            refused("act 4", x, x.trace(kind, 4), 3);
            refused("act -1", x, x.trace(kind, -1), 3);
        }
        refused("key", x, x.trace(5, 9), 1);
    }

    private static void undo() {
        promise = 40;
        HerbKey x = tree(0);
        x.names(0, 0);
        x.pick(0);
        well("undo", x, x.undo(), 14);
        for (int i = 13; i >= 0; i--) well("undo", x, x.undo(), i);
        refused("none left", x, x.undo(), 7);
        is("all as at first", x.digest(), 7L * 31 * 31);
        is("the row stays", x.name(0), 10);
        is("the proof stays", x.proof(1), 5);
        well("not right now", x, x.check(), 0);
        refused("the key is none", x, x.pick(0), 7);
        x.sheet();
        x.lose(5);
        is("what was refused is no change", x.changes(), 1);
    }

    /** Every kind of change, made one after the other and taken back. */
    private static void undoEach() {
        promise = 40;
        HerbKey x = new HerbKey();
        IntSupplier[] calls = {
            () -> x.sheet(), () -> x.sheet(), () -> x.row(0, 0, 3), () -> x.row(0, 1, 3), () -> x.row(1, 2, 3),
            () -> x.row(1, 1, 4), () -> x.state(0, 1, 9), () -> x.state(0, 1, 8), () -> x.measure(1, 1, 5, 1),
            () -> x.measure(0, 1, 3, 0), () -> x.lack(0, 1, 0), () -> x.lack(1, 0, 1), () -> x.code(1, 2, 77), () -> x.merge(0, 1),
            () -> x.measure(0, 1, 7, 7), () -> x.code(0, 0, 5), () -> x.merge(1, 0), () -> x.row(0, 0, -1),
            () -> x.key(0), () -> x.key(1), () -> x.key(2), () -> x.key(3), () -> x.key(4),
            () -> x.couplet(0, 1, 2, 77, 0), () -> x.couplet(0, 0, 1, 9, 0), () -> x.lead(0, 0, true, 1),
            () -> x.lead(0, 1, false, 105), () -> x.lead(0, 0, true, 106), () -> x.lead(0, 0, false, 101),
            () -> x.couplet(1, 2, 0, 3, 3), () -> x.region(1, 12345L), () -> x.region(1, 9L),
            () -> x.couplet(2, 1, 2, 77, 0), () -> x.couplet(2, 0, 1, 9, 0), () -> x.want(2, 4, 1, 1),
            () -> x.want(2, 4, 1, 0), () -> x.learn(2, 1, 4), () -> x.learn(2, 9, 4), () -> x.couplet(3, 0, 1, 9, 0),
            () -> x.weigh(3, 0, 6), () -> x.weigh(3, 0, 2), () -> x.slack(3, 9), () -> x.slack(3, 8),
            () -> x.want(3, 63, 0, 1), () -> x.join(4, 1, 2), () -> x.join(4, 2, 3), () -> x.drop(4),
            () -> x.drop(2), () -> x.lose(1), () -> x.key(2), () -> x.couplet(5, 0, 0, 0, 0), () -> x.sheet(),
        };
        long[] before = new long[calls.length];
        for (int i = 0; i < calls.length; i++) {
            before[i] = x.digest();
            calls[i].getAsInt();
            is("call " + i + ", status", x.status(), 0);
            is("call " + i + ", changes", x.changes(), i + 1);
            is("call " + i + " changes the digest", before[i] == x.digest() ? 1 : 0, 0);
        }
        long last = x.digest();
        for (int i = calls.length - 1; i >= 0; i--) {
            well("undo", x, x.undo(), i);
            is("digest ahead of call " + i, x.digest(), before[i]);
        }
        for (IntSupplier call : calls) call.getAsInt();
        is("all once more", x.digest(), last);
    }

    private static void changes() {
        promise = 41;
        HerbKey x = new HerbKey();
        is("none", x.changes(), 0);
        x.sheet();
        x.row(0, 1, 2);
        x.measure(0, 0, 0, 0);
        x.measure(0, 0, 0, 0);
        is("also if all is as before", x.changes(), 4);
        x.measure(0, 7, 0, 0);
        is("not what was refused", x.changes(), 4);
        x.key(0);
        x.names(0, 0);
        x.ask(0, 0, 0);
        is("not what only asks", x.changes(), 5);
        x.undo();
        is("less one", x.changes(), 4);
        x.lose(9);
        x.changes();
        is("it leaves status", x.status(), 2);
    }

    private static void status() {
        promise = 42;
        HerbKey x = tree(0);
        x.names(9, 0);
        is("why", x.status(), 1);
        is("still", x.status(), 1);
        x.digest();
        x.changes();
        is("these are never refused", x.status(), 1);
        x.sure(0, 1);
        is("BAD, and 0", x.status(), 0);
        x.undo();
        is("0", x.status(), 0);
        x.lose(9);
        x.read(0, 0, 0);
        is("0", x.status(), 0);
    }

    private static long fold(long... xs) {
        long d = 7;
        for (long v : xs) d = d * 31 + v;
        return d;
    }

    private static void digest() {
        promise = 43;
        HerbKey x = new HerbKey();
        is("empty", x.digest(), fold(0, 0));
        x.sheet();
        x.sheet();
        x.row(1, 0, 2);
        x.state(1, 1, -3);
        x.row(1, 1, 1);
        x.measure(1, 0, 5, 0);
        x.lose(0);
        is("sheets", x.digest(), fold(2, 0, 1, 2, 0, -3, 1, 40, -1, 0));
        x = new HerbKey();
        x.key(0);
        x.couplet(0, 3, -1, -9, 4);
        x.lead(0, 0, true, 105);
        x.key(1);
        x.couplet(1, 0, 2, 1, 0);
        x.region(1, 77L);
        is("branching, regional", x.digest(), fold(0, 2, 0, 1, 3, -1, -9, 4, -1, 105, 1, 1, 0, 2, 1, 0, -1, -1, 77));
        x = new HerbKey();
        x.key(2);
        x.drop(0);
        x.key(4);
        x.key(4);
        x.join(2, 1, 1);
        is("none, joined", x.digest(), fold(0, 3, -1, 4, 0, -1, -1, 4, 0, 1, 1));
        for (int kind = 2; kind < 4; kind++) {
            x = new HerbKey();
            x.key(kind);
            x.couplet(0, 1, 3, 8, 0);
            x.couplet(0, 1, 4, 8, 0);
            x.want(0, 1, 0, 1);
            x.want(0, 1, 1, 0);
            if (kind == 3) { x.weigh(0, 1, 7); x.slack(0, 33); }
            long d = kind == 2 ? fold(0, 1, 2, 2, 1, 3, 8, 0, 1, 4, 8, 0) : fold(0, 1, 3, 2, 1, 3, 8, 0, 1, 1, 4, 8, 0, 7);
            for (int n = 0; n < 64; n++) d = n == 1 ? (d * 31 + 1) * 31 : (d * 31 + 2) * 31 + 2;
            is("kind " + kind, x.digest(), kind == 2 ? d : d * 31 + 33);
        }
    }
}
