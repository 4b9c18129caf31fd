import java.math.BigInteger;

/**
 * The document's terms, 1 and 2: every range and limit that they name, at its edges and one beyond, and
 * what each ASK answers at the very number at which its answer turns.
 */
public final class TermsTest {
    private static final int BAD = Due.BAD;
    private static final int MIN = Due.MIN;
    private static final int MAX = Due.MAX;

    /** Of each ask the least and the greatest q, and the least and the greatest r. */
    private static final int[][] ASKS = {
        {-128, 127, 0, 0}, {0, 65535, 0, 0}, {-16777216, 16777216, -20, 100}, {MIN, MAX, -20, 100},
        {1, 16777216, -20, 100}, {1, 1000000, -1000000, 1000000}, {MIN, MAX, 0, 32}, {0, 63, 0, 0}, {0, 63, -400, 400}};
    private static final String[] TOLD = {
        "0 STATE p is q (-128 .. 127; r is 0).", "1 CODE p is q (0 .. 65535; r is 0).",
        "2 MEASURE p is below q * 2 ^ r (q -16777216 .. 16777216, r -20 .. 100).",
        "3 MEASURE p is q * 2 ^ r or below (q any number, r likewise).",
        "4 MEASURE p is a whole multiple of q * 2 ^ r (q 1 .. 16777216, r likewise).",
        "greatest whole multiple of q (1 .. 1000000) that is in it, is r (-1000000 .. 1000000) or more",
        "is q * 2 ^ r (q any number, r 0 .. 32) or more.",
        "7 KEY p gives NAME q (0 .. 63; r is 0) for this SHEET",
        "for this SHEET is r (-400 .. 400) or more."};

    public static void main(String[] args) {
        sheets();
        lostSheets();
        rowsAtFirst();
        states();
        codes();
        places();
        measuresExactly();
        lacking();
        keys();
        droppedKeys();
        kinds();
        coupletsOfEachKind();
        names();
        numbersOfNoSheet();
        causes();
        causesInOrder();
        rangesOfP();
        placesAsked();
        keysAsked();
        rangesOfQAndR();
        stateAndCodeAsked();
        belowAndAtMost();
        atMostAnyNumber();
        multiples();
        whatIsLeft();
        wholePart();
        givesName();
        givesNameJoined();
        scoreAsked();
        ringsOfKeys();
        longestRings();
        Due.end("the terms hold at their edges");
    }

    // ---- 1

    private static void sheets() {
        Due.by("1 SHEETS 0 ..");
        HerbKey x = new HerbKey();
        Due.refused("row of sheet 0, not made yet", x, x.row(0, 0, 1), 2);
        for (int i = 0; i < 40; i++) {
            Due.well("sheet", x, x.sheet(), i);
            Due.well("row of the latest", x, x.row(i, 0, 1), 1);
            Due.refused("row of the next", x, x.row(i + 1, 0, 1), 2);
        }
        Due.refused("sheet 41", x, x.sheet(), 8);
        Due.well("the first", x, x.state(0, 0, 5), 5);
        Due.well("the last", x, x.state(39, 0, 6), 6);
        Due.refused("40", x, x.state(40, 0, 6), 2);
        Due.refused("-1", x, x.state(-1, 0, 6), 2);
        Due.is("the first", x.read(0, 0, 0), 5);
        Due.is("the last", x.read(39, 0, 0), 6);
    }

    private static void lostSheets() {
        Due.by("one that was lost is none, and its number is not used again.");
        HerbKey x = new HerbKey();
        x.sheet();
        Due.well("lose the only one", x, x.lose(0), 0);
        Due.well("the next number", x, x.sheet(), 1);
        for (int i = 2; i < 40; i++) x.sheet();
        Due.well("lose the last", x, x.lose(39), 38);
        Due.refused("still 40 were made", x, x.sheet(), 8);
        Due.refused("the first is none", x, x.row(0, 0, 1), 2);
        Due.refused("the last is none", x, x.row(39, 0, 1), 2);
        Due.well("the one before is there", x, x.row(38, 0, 1), 1);
        Due.refused("is lost already", x, x.lose(39), 2);
    }

    private static void rowsAtFirst() {
        Due.by("A SHEET has three ROWS, each of them missing at first");
        HerbKey x = new HerbKey();
        x.sheet();
        Due.refused("state", x, x.state(0, 0, 0), 3);
        Due.refused("measure", x, x.measure(0, 0, 0, 0), 3);
        Due.refused("lack", x, x.lack(0, 0, 0), 3);
        Due.refused("code", x, x.code(0, 0, 0), 3);
        for (int kind = -1; kind < 4; kind++) Due.refused("read " + kind, x, x.read(0, kind, 0), 3);
        for (int kind = 0; kind < 3; kind++) {
            x.row(0, kind, 1);
            for (int other = 0; other < 3; other++) {
                Due.is("row " + kind + " alone, read " + other, x.read(0, other, 0), other == kind ? 0 : BAD);
            }
            x.row(0, kind, -1);
            Due.refused("missing again", x, x.read(0, kind, 0), 3);
        }
    }

    /** Sheet 0 with 40 places of each kind, and a branching key. */
    private static HerbKey wide() {
        HerbKey x = new HerbKey();
        x.sheet();
        for (int kind = 0; kind < 3; kind++) x.row(0, kind, 40);
        x.key(0);
        return x;
    }

    private static void states() {
        Due.by("STATES (0: numbers -128 .. 127)");
        HerbKey x = wide();
        int[] fine = {-128, -127, -1, 0, 1, 126, 127};
        for (int v : fine) {
            Due.well("state", x, x.state(0, 39, v), v);
            Due.well("read", x, x.read(0, 0, 39), v);
        }
        Due.well("greatest", x, x.state(0, 0, 127), 127);
        Due.well("least", x, x.state(0, 1, -128), -128);
        Due.refused("128", x, x.state(0, 0, 128), 5);
        Due.refused("-129", x, x.state(0, 1, -129), 5);
        Due.refused("256, which is 0 in a byte", x, x.state(0, 0, 256), 5);
        Due.is("kept", x.read(0, 0, 0), 127);
        Due.is("kept", x.read(0, 0, 1), -128);
    }

    private static void codes() {
        Due.by("CODES (2: numbers 0 .. 65535)");
        HerbKey x = wide();
        int[] fine = {0, 1, 127, 128, 255, 256, 32767, 32768, 65534, 65535};
        for (int v : fine) {
            Due.well("code", x, x.code(0, 39, v), v);
            Due.well("read", x, x.read(0, 2, 39), v);
        }
        int[] wrong = {-1, 65536, 65537, -65535, MIN, MAX};
        for (int v : wrong) {
            Due.refused("code " + v, x, x.code(0, 39, v), 5);
            Due.is("kept", x.read(0, 2, 39), 65535);
        }
    }

    private static long put(HerbKey x, int kind, int place) {
        return kind == 0 ? x.state(0, place, 1) : kind == 1 ? x.measure(0, place, 1, 0) : x.code(0, place, 1);
    }

    private static void places() {
        Due.by("A ROW has 0 to 40 PLACES, from 0 on, all 0 at first.");
        int[] lengths = {0, 1, 2, 39, 40};
        for (int kind = 0; kind < 3; kind++) {
            HerbKey x = new HerbKey();
            x.sheet();
            for (int n : lengths) {
                String row = "row " + kind + " of " + n;
                Due.well(row, x, x.row(0, kind, n), n);
                Due.refused(row + ", place -1", x, x.read(0, kind, -1), 3);
                Due.refused(row + ", put -1", x, put(x, kind, -1), 3);
                for (int p = 0; p < n; p++) Due.well(row + ", place " + p, x, x.read(0, kind, p), 0);
                Due.refused(row + ", place " + n, x, x.read(0, kind, n), 3);
                Due.refused(row + ", put " + n, x, put(x, kind, n), 3);
                if (n == 0) continue;
                Due.well(row + ", put 0", x, put(x, kind, 0), 1);
                Due.well(row + ", put the last", x, put(x, kind, n - 1), 1);
            }
            Due.refused("41", x, x.row(0, kind, 41), 5);
            Due.refused("-2", x, x.row(0, kind, -2), 5);
            Due.is("kept", x.read(0, kind, 39), kind == 1 ? 8 : 1);
            x.row(0, kind, 40);
            Due.well("a new one is all 0", x, x.read(0, kind, 39), 0);
        }
        HerbKey x = wide();
        x.couplet(0, 3, 0, 0, 0);
        x.couplet(0, 2, 0, 0, 0);
        Due.well("a measure is the number 0 at first", x, x.cause(0, 0, 0), 0);
        Due.is("not above 0", x.ask(0, 0, 0), 1);
        Due.is("not below 0", x.ask(0, 0, 1), 0);
    }

    private static void measuresExactly() {
        Due.by("A MEASURE is a number n * 2 ^ e, exactly");
        int[] powers = {-20, -19, -1, 0, 1, 99, 100};
        int[] numbers = {-16777216, -16777215, -1, 0, 1, 16777215, 16777216};
        for (int e : powers) {
            for (int n : numbers) {
                Due.is(n + " * 2 ^ " + e + " is below itself", answer(n, e, 2, n, e), 0);
                Due.is(n + " * 2 ^ " + e + " is itself or below", answer(n, e, 3, n, e), 1);
                if (n < 16777216) {
                    Due.is(n + " * 2 ^ " + e + " is below the next", answer(n, e, 2, n + 1, e), 1);
                    Due.is("the next is below " + n + " * 2 ^ " + e, answer(n + 1, e, 3, n, e), 0);
                }
            }
        }
        Due.is("2 ^ 24 in two forms", answer(16777216, 0, 3, 1, 24), 1);
        Due.is("2 ^ 24 in two forms", answer(16777216, 0, 2, 1, 24), 0);
        Due.is("2 ^ 100 in two forms", answer(1, 100, 3, 16777216, 76), 1);
        Due.is("2 ^ 100 in two forms", answer(1, 100, 2, 16777216, 76), 0);
        Due.is("2 ^ -20 is no 0", answer(1, -20, 3, 0, 0), 0);
        Due.is("-(2 ^ -20) is no 0", answer(-1, -20, 2, 0, 0), 1);
        Due.is("0 of any power is 0", answer(0, 100, 3, 0, -20), 1);
        Due.is("0 of any power is 0", answer(0, 100, 2, 0, -20), 0);
    }

    private static void lacking() {
        Due.by("or NONE, or ENDLESS above or below");
        HerbKey x = wide();
        x.couplet(0, 3, 39, MAX, 100);
        int[] causes = {4, 5, 5};
        long[] reads = {0, Long.MAX_VALUE, Long.MIN_VALUE};
        for (int how = 0; how < 3; how++) {
            Due.well("lack", x, x.lack(0, 39, how), how);
            Due.well("read", x, x.read(0, 1, 39), reads[how]);
            Due.is("unknown", x.ask(0, 0, 0), 2);
            Due.is("cause", x.cause(0, 0, 0), causes[how]);
            Due.is("the place ahead of it is a number", x.read(0, 1, 38), 0);
        }
        Due.well("a number again", x, x.measure(0, 39, 16777216, 100), 16777216);
        Due.is("cause", x.cause(0, 0, 0), 0);
        Due.is("yes", x.ask(0, 0, 0), 1);
    }

    // ---- 2

    private static void keys() {
        Due.by("2 KEYS 0 .. 39, likewise; a KEY that was dropped is none.");
        HerbKey x = new HerbKey();
        Due.refused("key 0 is not made yet", x, x.names(0, 0), 1);
        for (int i = 0; i < 40; i++) {
            Due.well("key", x, x.key(i % 5), i);
            Due.well("the latest", x, x.names(i, 0), 0);
            Due.refused("the next", x, x.names(i + 1, 0), 1);
        }
        Due.refused("key 41", x, x.key(0), 8);
        Due.refused("-1", x, x.names(-1, 0), 1);
        Due.well("the first", x, x.couplet(0, 0, 0, 0, 0), 0);
        Due.well("a late one", x, x.couplet(38, 0, 0, 0, 0), 0);
        Due.refused("the last is joined", x, x.couplet(39, 0, 0, 0, 0), 4);
    }

    private static void droppedKeys() {
        Due.by("2 KEYS 0 .. 39, likewise; a KEY that was dropped is none.");
        HerbKey x = new HerbKey();
        x.key(0);
        Due.well("drop the only one", x, x.drop(0), 0);
        Due.well("the next number", x, x.key(0), 1);
        for (int i = 2; i < 40; i++) x.key(0);
        Due.well("drop the last", x, x.drop(39), 38);
        Due.refused("still 40 were made", x, x.key(0), 8);
        Due.refused("the first is none", x, x.names(0, 0), 1);
        Due.refused("the last is none", x, x.names(39, 0), 1);
        Due.well("the one before is there", x, x.names(38, 0), 0);
        Due.refused("is dropped already", x, x.drop(39), 1);
    }

    private static void kinds() {
        Due.by("KINDS: 0 BRANCHING, 1 REGIONAL (a BRANCHING one, too), 2 TABLE, 3 WEIGHTED (a TABLE, too), 4 JOINED.");
        HerbKey x = new HerbKey();
        Due.refused("-1", x, x.key(-1), 5);
        for (int kind = 0; kind < 5; kind++) {
            Due.well("kind", x, x.key(kind), kind);
            Due.is("branching", x.depth(kind), kind < 2 ? 0 : BAD);
            Due.is("regional", x.region(kind, 3), kind == 1 ? 2 : BAD);
            Due.is("table", x.parts(kind, 0, 63), kind == 2 || kind == 3 ? 0 : BAD);
            Due.is("weighted", x.slack(kind, 7), kind == 3 ? 7 : BAD);
            Due.is("joined", x.join(kind, 0, 0), kind == 4 ? 1 : BAD);
        }
        Due.refused("5", x, x.key(5), 5);
    }

    private static void coupletsOfEachKind() {
        Due.by("All but JOINED have COUPLETS 0, 1, .. 39.");
        for (int kind = 0; kind < 4; kind++) {
            HerbKey x = wide();
            x.key(kind);
            for (int c = 0; c < 40; c++) {
                Due.refused("not yet", x, x.ask(1, 0, c), 3);
                Due.well("couplet", x, x.couplet(1, 0, c, c == 39 ? 0 : 1, 0), c);
            }
            Due.refused("41st", x, x.couplet(1, 0, 0, 0, 0), 8);
            Due.well("first", x, x.ask(1, 0, 0), 0);
            Due.well("last", x, x.ask(1, 0, 39), 1);
            Due.refused("40", x, x.ask(1, 0, 40), 3);
            Due.refused("-1", x, x.ask(1, 0, -1), 3);
            if (kind < 2) {
                Due.well("lead of the last", x, x.lead(1, 39, true, 100), 100);
                Due.well("lead to the last", x, x.lead(1, 0, false, 39), 39);
                Due.refused("lead of 40", x, x.lead(1, 40, true, 100), 3);
                Due.refused("lead to 40", x, x.lead(1, 0, true, 40), 3);
                Due.well("names by 0 and 39", x, x.names(1, 0), 1);
            } else {
                Due.well("want of the last", x, x.want(1, 0, 39, 1), 1);
                Due.refused("want of 40", x, x.want(1, 0, 40, 1), 3);
                Due.well("given", x, x.sure(1, 0), 0);
            }
            if (kind == 3) {
                Due.well("weight of the last", x, x.weigh(1, 39, 9), 9);
                Due.refused("weight of 40", x, x.weigh(1, 40, 9), 3);
                Due.is("score", x.score(1, 0, 0), 9);
            }
        }
        HerbKey x = wide();
        x.key(4);
        Due.refused("joined", x, x.couplet(1, 0, 0, 0, 0), 4);
    }

    private static void names() {
        Due.by("NAMES are 0 .. 63.");
        HerbKey x = wide();
        x.couplet(0, 0, 0, 1, 0);
        Due.refused("lead to 99", x, x.lead(0, 0, true, 99), 3);
        Due.well("lead to name 0", x, x.lead(0, 0, true, 100), 100);
        Due.well("lead to name 63", x, x.lead(0, 0, false, 163), 163);
        Due.refused("lead to 164", x, x.lead(0, 0, true, 164), 3);
        Due.well("both", x, x.names(0, 9), 2);
        Due.is("the least", x.name(0), 0);
        Due.is("the greatest", x.name(1), 63);
        Due.well("parted", x, x.parted(0, 0, 63), 1);
        x.key(3);
        x.couplet(1, 0, 0, 0, 0);
        int[] ends = {0, 63};
        for (int n : ends) {
            Due.well("want", x, x.want(1, n, 0, 1), 1);
            Due.well("learn", x, x.learn(1, 0, n), 1);
            Due.well("score", x, x.score(1, 0, n), 1);
        }
        int[] beyond = {-1, 64, 100, 163, MIN, MAX};
        for (int n : beyond) {
            Due.refused("want", x, x.want(1, n, 0, 1), 3);
            Due.refused("learn", x, x.learn(1, 0, n), 3);
            Due.refused("score", x, x.score(1, 0, n), 3);
            Due.refused("parted", x, x.parted(1, n, 0), 3);
            Due.refused("parted", x, x.parted(1, 63, n), 3);
            Due.refused("parts", x, x.parts(1, n, 0), 3);
            Due.refused("parts", x, x.parts(1, 63, n), 3);
        }
        Due.is("two are given", x.names(1, 0), 2);
    }

    private static void numbersOfNoSheet() {
        Due.by("A COUPLET asks one thing of a SHEET (a number that is no SHEET's may be given, too)");
        HerbKey x = wide();
        x.sheet();
        x.lose(1);
        x.key(3);
        for (int k = 0; k < 2; k++) x.couplet(k, 0, 0, 0, 0);
        x.lead(0, 0, true, 105);
        x.want(1, 5, 0, 1);
        int[] none = {-1, 1, 2, 39, 40, MIN, MAX};
        for (int s : none) {
            Due.well("ask", x, x.ask(0, s, 0), 2);
            Due.well("cause", x, x.cause(0, s, 0), 1);
            Due.well("names", x, x.names(0, s), 1);
            Due.is("unknowns", x.unknowns(0), 1);
            Due.well("pick", x, x.pick(0), 1);
            Due.well("the sheet's number", x, x.proof(-2), s);
            Due.well("check", x, x.check(), 1);
            Due.well("sure", x, x.sure(0, s), BAD);
            Due.well("score", x, x.score(1, s, 5), 0);
            Due.well("next", x, x.next(0, s), 0);
            Due.well("compare", x, x.compare(0, s, 0), 0);
            Due.well("compare", x, x.compare(0, 0, s), 0);
            Due.well("learn", x, x.learn(1, s, 6), 0);
        }
        Due.well("of a sheet that there is", x, x.ask(0, 0, 0), 1);
    }

    /** Couplets of key 0: what each CAUSE is told of, and asks that have none. */
    private static void causes() {
        Due.by("its ANSWER is NO, YES or UNKNOWN");
        HerbKey x = wide();
        x.key(3);
        x.couplet(1, 1, 0, 0, 0);
        x.want(1, 0, 0, 1);
        for (int ask = 0; ask < 7; ask++) x.couplet(0, ask, 39, ask == 4 || ask == 5 ? 1 : 0, 0);
        x.couplet(0, 7, 1, 0, 0);
        x.couplet(0, 8, 1, 0, 1);
        int[] answers = {1, 1, 0, 1, 1, 1, 1, 1, 1};
        for (int c = 0; c < 9; c++) {
            Due.well("ask " + c, x, x.ask(0, 0, c), answers[c]);
            Due.by("The CAUSE of that ANSWER; 0 if it is not UNKNOWN.");
            Due.well("cause of " + c, x, x.cause(0, 0, c), 0);
        }
    }

    private static void causesInOrder() {
        Due.by("1 there is no such SHEET (whatever is asked, 7 and 8, too)");
        HerbKey x = new HerbKey();
        x.sheet();
        x.key(0);
        x.key(3);
        x.key(0);
        for (int ask = 0; ask < 7; ask++) x.couplet(0, ask, -1, ask == 4 || ask == 5 ? 1 : 0, 0);
        x.couplet(1, 0, 0, 0, 0);
        x.want(1, 5, 0, 1);
        x.couplet(0, 7, 1, 5, 0);
        x.couplet(0, 8, 2, 5, 0);
        x.couplet(0, 8, 40, 5, 0);
        x.couplet(0, 7, -1, 5, 0);
        x.couplet(0, 8, 1, 5, 0);
        for (int c = 0; c < 12; c++) Due.is("no sheet, couplet " + c, x.cause(0, 1, c), 1);
        Due.by("2 the ROW is missing; 3 the ROW has no such PLACE; 4 the MEASURE is NONE; 5 it is ENDLESS;");
        for (int c = 0; c < 7; c++) Due.is("row missing ahead of no place, couplet " + c, x.cause(0, 0, c), 2);
        for (int kind = 0; kind < 3; kind++) x.row(0, kind, 0);
        for (int c = 0; c < 7; c++) Due.is("no place in 0, couplet " + c, x.cause(0, 0, c), 3);
        for (int kind = 0; kind < 3; kind++) x.row(0, kind, 40);
        for (int c = 0; c < 7; c++) Due.is("no place -1, couplet " + c, x.cause(0, 0, c), 3);
        for (int ask = 2; ask < 7; ask++) x.couplet(2, ask, 39, 1, 0);
        int[] of = {4, 5, 5};
        for (int how = 0; how < 3; how++) {
            x.lack(0, 39, how);
            for (int c = 0; c < 5; c++) Due.is("lack " + how + ", couplet " + c, x.cause(2, 0, c), of[how]);
        }
        Due.by("6 there is no such KEY; 7 that KEY is not WEIGHTED; 8 it is not sure.");
        x.row(0, 0, -1);
        Due.is("not sure", x.cause(0, 0, 7), 8);
        Due.is("not weighted", x.cause(0, 0, 8), 7);
        Due.is("no key, though not weighted either", x.cause(0, 0, 9), 6);
        Due.is("no key, though not sure either", x.cause(0, 0, 10), 6);
        Due.is("a score is told", x.cause(0, 0, 11), 0);
        x.drop(2);
        Due.is("dropped", x.cause(0, 0, 8), 6);
        x.drop(1);
        Due.is("dropped", x.cause(0, 0, 7), 6);
    }

    private static void rangesOfP() {
        Due.by("p is a PLACE, -1 .. 60, or, for 7 and 8, a KEY's number, -1 .. 60");
        for (int ask = 0; ask < 9; ask++) {
            HerbKey x = wide();
            int q = ASKS[ask][1];
            int[] fine = {-1, 1, 39, 40, 59, 60};
            for (int i = 0; i < fine.length; i++) {
                Due.well("ask " + ask + " p " + fine[i], x, x.couplet(0, ask, fine[i], q, 0), i);
            }
            int[] wrong = {-2, 61, MIN, MAX};
            for (int p : wrong) Due.refused("ask " + ask + " p " + p, x, x.couplet(0, ask, p, q, 0), 5);
        }
    }

    private static void placesAsked() {
        Due.by("3 the ROW has no such PLACE");
        for (int ask = 0; ask < 7; ask++) {
            HerbKey x = wide();
            for (int p = -1; p <= 60; p++) {
                if (p == 40) x.key(0);
                x.couplet(p < 40 && p >= 0 ? 0 : 1, ask, p, ask == 4 || ask == 5 ? 1 : 0, 0);
            }
            // Key 1 came with place 40, so -1 found none.
            for (int c = 0; c < 40; c++) Due.is("ask " + ask + " of place " + c, x.cause(0, 0, c), 0);
            for (int c = 0; c < 21; c++) Due.is("ask " + ask + " of place " + (40 + c), x.cause(1, 0, c), 3);
            x.couplet(1, ask, -1, ask == 4 || ask == 5 ? 1 : 0, 0);
            Due.is("ask " + ask + " of place -1", x.cause(1, 0, 21), 3);
            x.row(0, ask == 0 ? 0 : ask == 1 ? 2 : 1, 39);
            Due.is("the last of 39", x.cause(0, 0, 38), 0);
            Due.is("one beyond 39", x.cause(0, 0, 39), 3);
            x.row(0, ask == 0 ? 0 : ask == 1 ? 2 : 1, 1);
            Due.is("the only one", x.cause(0, 0, 0), 0);
            Due.is("one beyond it", x.cause(0, 0, 1), 3);
        }
    }

    private static void keysAsked() {
        Due.by("6 there is no such KEY");
        for (int by = 0; by < 40; by += 39) {
            HerbKey x = new HerbKey();
            x.sheet();
            for (int i = 0; i < 40; i++) x.key(3);
            int[] asked = {-1, 39 - by, 1, 38, 40, 60};
            for (int ask = 7; ask < 9; ask++) {
                for (int p : asked) {
                    int c = x.couplet(by, ask, p, 63, 0);
                    boolean there = p >= 0 && p < 40;
                    Due.well("ask " + ask + " of key " + p, x, x.cause(by, 0, c), there ? 0 : 6);
                    Due.is("ask " + ask + " of key " + p, x.ask(by, 0, c), !there ? 2 : ask == 7 ? 0 : 1);
                }
            }
        }
    }

    private static void rangesOfQAndR() {
        for (int ask = 0; ask < 9; ask++) {
            Due.by(TOLD[ask]);
            int[] a = ASKS[ask];
            HerbKey x = wide();
            int made = 0;
            for (int q = 0; q < 2; q++) {
                for (int r = 2; r < 4; r++) {
                    Due.well("ask " + ask + " " + a[q] + " " + a[r], x, x.couplet(0, ask, 1, a[q], a[r]), made);
                    made++;
                }
            }
            long[][] beyond = {{(long) a[0] - 1, a[2]}, {(long) a[1] + 1, a[2]}, {a[0], (long) a[2] - 1}, {a[0], (long) a[3] + 1},
                {a[1], (long) a[2] - 1}, {a[1], (long) a[3] + 1}, {(long) a[0] - 1, a[3]}, {(long) a[1] + 1, a[3]},
                {a[0], MIN}, {a[0], MAX}};
            for (long[] b : beyond) {
                if (b[0] != (int) b[0]) continue;
                Due.refused("ask " + ask + " " + b[0] + " " + b[1], x, x.couplet(0, ask, 1, (int) b[0], (int) b[1]), 5);
            }
        }
        Due.by("5: no such ASK, or p, q, r not as told");
        HerbKey x = wide();
        Due.refused("ask -1", x, x.couplet(0, -1, 0, 1, 0), 5);
        Due.refused("ask 9", x, x.couplet(0, 9, 0, 1, 0), 5);
        Due.refused("ask least", x, x.couplet(0, MIN, 0, 1, 0), 5);
        Due.refused("ask greatest", x, x.couplet(0, MAX, 0, 1, 0), 5);
    }

    // ---- what each ASK answers where its answer turns

    /** The answer of a couplet that asks a measure n * 2 ^ e. */
    private static int answer(int n, int e, int ask, int q, int r) {
        HerbKey x = new HerbKey();
        x.sheet();
        x.row(0, 1, 1);
        x.measure(0, 0, n, e);
        x.key(0);
        x.couplet(0, ask, 0, q, r);
        return x.ask(0, 0, 0);
    }

    private static void stateAndCodeAsked() {
        int[][] edges = {{-128, -127, -1, 0, 1, 126, 127}, {0, 1, 127, 128, 255, 256, 65534, 65535}};
        for (int ask = 0; ask < 2; ask++) {
            Due.by(TOLD[ask]);
            HerbKey x = wide();
            for (int q : edges[ask]) x.couplet(0, ask, 39, q, 0);
            for (int i = 0; i < edges[ask].length; i++) {
                if (ask == 0) x.state(0, 39, edges[ask][i]); else x.code(0, 39, edges[ask][i]);
                for (int c = 0; c < edges[ask].length; c++) {
                    Due.well(edges[ask][i] + " is " + edges[ask][c], x, x.ask(0, 0, c), c == i ? 1 : 0);
                }
            }
        }
    }

    private static void belowAndAtMost() {
        Due.by(TOLD[2]);
        int[][] ends = {{16777216, 100}, {16777216, -20}, {-16777216, 100}, {-16777216, -20}, {1, -20}, {-1, -20}, {0, -20}, {0, 100}};
        for (int[] a : ends) {
            for (int[] b : ends) {
                int order = exact(a).compareTo(exact(b));
                String what = a[0] + " * 2 ^ " + a[1] + " against " + b[0] + " * 2 ^ " + b[1];
                Due.is(what, answer(a[0], a[1], 2, b[0], b[1]), order < 0 ? 1 : 0);
                Due.is(what, answer(a[0], a[1], 3, b[0], b[1]), order <= 0 ? 1 : 0);
            }
        }
        // One part in 2 ^ 24 above and below, over every distance of the powers.
        for (int far = 0; far <= 24; far++) {
            int n = 1 << far;
            Due.is("the same over " + far, answer(n, 50, 2, 1, 50 + far), 0);
            Due.is("the same over " + far, answer(n, 50, 3, 1, 50 + far), 1);
            Due.is("one less over " + far, answer(n - 1, 50, 2, 1, 50 + far), 1);
            if (far < 24) Due.is("one more over " + far, answer(n + 1, 50, 3, 1, 50 + far), 0);
            Due.is("the same over -" + far, answer(-1, 50 + far, 2, -n, 50), 0);
            Due.is("the same over -" + far, answer(-1, 50 + far, 3, -n, 50), 1);
            Due.is("one less over -" + far, answer(-1, 50 + far, 2, 1 - n, 50), 1);
        }
        for (int far = 25; far <= 120; far++) {
            Due.is("1 far above over " + far, answer(1, far - 20, 3, 16777216, -20), 0);
            Due.is("-1 far below over " + far, answer(-1, far - 20, 2, -16777216, -20), 1);
            Due.is("1 far below over " + far, answer(16777216, -20, 2, 1, far - 20), 1);
            Due.is("-1 far above over " + far, answer(-16777216, -20, 3, -1, far - 20), 0);
        }
    }

    /** n * 2 ^ (e + 20). */
    private static BigInteger exact(int[] measure) {
        return BigInteger.valueOf(measure[0]).shiftLeft(measure[1] + 20);
    }

    private static void atMostAnyNumber() {
        Due.by(TOLD[3]);
        Due.is("2 ^ 31 - 128", answer(16777215, 7, 3, MAX, 0), 1);
        Due.is("2 ^ 31", answer(16777216, 7, 3, MAX, 0), 0);
        Due.is("-(2 ^ 31)", answer(-16777216, 7, 3, MIN, 0), 1);
        Due.is("-(2 ^ 31) and 128", answer(-16777215, 7, 3, MIN, 0), 0);
        Due.is("2 ^ 31 less a part", answer(16777215, -13, 3, MAX, -20), 1);
        Due.is("2048", answer(16777216, -13, 3, MAX, -20), 0);
        Due.is("-2048", answer(-16777216, -13, 3, MIN, -20), 1);
        Due.is("the greatest of all", answer(16777216, 100, 3, MAX, 93), 0);
        Due.is("the greatest of all", answer(16777216, 100, 3, MAX, 94), 1);
        Due.is("the greatest of all", answer(16777216, 100, 3, MAX, 100), 1);
        Due.is("the least of all", answer(-16777216, 100, 3, MIN, 93), 1);
        Due.is("the least of all", answer(-16777216, 100, 3, MIN, 94), 0);
        Due.is("the least of all", answer(-16777216, 100, 3, MIN, 100), 0);
        Due.is("the smallest", answer(1, -20, 3, MAX, 100), 1);
        Due.is("the smallest", answer(1, -20, 3, MIN, 100), 0);
        Due.is("1 against 1", answer(1, -20, 3, 1, -20), 1);
        Due.is("1 against 0", answer(1, -20, 3, 0, -20), 0);
        for (int by = 25; by <= 31; by++) {
            // q beyond what a MEASURE's n can be: 2 ^ by, and one less.
            int q = by == 31 ? MIN : -(1 << by);
            Due.is("-(2 ^ " + by + ")", answer(-1, by, 3, q, 0), 1);
            Due.is("-(2 ^ " + by + ") and 1", answer(-1, by, 3, q + 1, 0), 1);
            if (by < 31) Due.is("2 ^ " + by, answer(1, by, 3, 1 << by, 0), 1);
            Due.is("2 ^ " + by + " less 1", answer(1, by, 3, by == 31 ? MAX : (1 << by) - 1, 0), 0);
            if (by > 25) Due.is("-(2 ^ " + by + ") against one less", answer(-1, by - 1, 3, q, 0), 0);
        }
    }

    private static void multiples() {
        Due.by(TOLD[4]);
        int[] powers = {-20, -1, 0, 1, 98};
        for (int r : powers) {
            for (int k = -3; k <= 3; k++) {
                Due.is(k + " times 3 * 2 ^ " + r, answer(3 * k, r, 4, 3, r), 1);
                Due.is(k + " times 6 * 2 ^ " + r, answer(3 * k, r, 4, 6, r), k % 2 == 0 ? 1 : 0);
                Due.is(k + " times 3 and 1", answer(3 * k + 1, r, 4, 3, r), 0);
                Due.is(k + " times 3 less 1", answer(3 * k - 1, r, 4, 3, r), 0);
                Due.is(k + " times 12 * 2 ^ " + r, answer(3 * k, r + 2, 4, 12, r), 1);
            }
        }
        Due.is("the greatest of itself", answer(16777216, 100, 4, 16777216, 100), 1);
        Due.is("the least of it", answer(-16777216, 100, 4, 16777216, 100), 1);
        Due.is("one less", answer(16777215, 100, 4, 16777216, 100), 0);
        Due.is("half of it", answer(16777216, 99, 4, 16777216, 100), 0);
        Due.is("0", answer(0, -20, 4, 16777216, 100), 1);
        Due.is("the smallest of itself", answer(1, -20, 4, 1, -20), 1);
        Due.is("any of the smallest", answer(-16777215, 100, 4, 1, -20), 1);
        Due.is("the smallest of twice itself", answer(1, -20, 4, 1, -19), 0);
        Due.is("the smallest of twice itself", answer(1, -20, 4, 2, -20), 0);
        Due.is("2 ^ 100 by its n", answer(16777216, 76, 4, 1, 100), 1);
        Due.is("2 ^ 99 by its n", answer(16777216, 75, 4, 1, 100), 0);
        Due.is("one less by its n", answer(16777215, 76, 4, 1, 100), 0);
        Due.is("2 ^ 100 of 2 ^ 24 * 2 ^ 76", answer(1, 100, 4, 16777216, 76), 1);
        Due.is("2 ^ 100 of 2 ^ 24 * 2 ^ 77", answer(1, 100, 4, 16777216, 77), 0);
        Due.is("16777215 of itself", answer(16777215, -20, 4, 16777215, -20), 1);
        Due.is("16777215 * 2 ^ 100 of 5592405 * 2 ^ -20", answer(16777215, 100, 4, 5592405, -20), 1);
        Due.is("16777214 * 2 ^ 100 of 16777215 * 2 ^ -20", answer(16777214, 100, 4, 16777215, -20), 0);
        for (int far = 0; far <= 120; far++) {
            Due.is("3 of 3 over " + far, answer(3, -20, 4, 3, far - 20), far == 0 ? 1 : 0);
            Due.is("-3 of 3 over -" + far, answer(-3, far - 20, 4, 3, -20), 1);
            Due.is("5 of 3 over -" + far, answer(5, far - 20, 4, 3, -20), 0);
            Due.is("2 ^ 24 of 1 over " + far, answer(16777216, -20, 4, 1, far - 20), far <= 24 ? 1 : 0);
            Due.is("1 of 2 ^ 24 over -" + far, answer(1, far - 20, 4, 16777216, -20), far >= 24 ? 1 : 0);
            Due.is("0 of 1 over " + far, answer(0, -20, 4, 1, far - 20), 1);
        }
    }

    private static void whatIsLeft() {
        Due.by(TOLD[5]);
        int[][] left = {{999999, 0, 1000000, 999999}, {1000000, 0, 1000000, 0}, {1000001, 0, 1000000, 1}, {7, 0, 4, 3}, {8, 0, 4, 0},
            {1, 0, 1, 0}, {16777216, 0, 1000000, 777216}, {16777215, -1, 2, 1}, {5, 0, 2, 1}, {1, 1, 3, 2}, {1, 2, 3, 1}};
        for (int[] a : left) {
            boolean whole = a[1] >= 0;
            String what = a[0] + " * 2 ^ " + a[1] + " by " + a[2];
            Due.is(what + " is what is left", answer(a[0], a[1], 5, a[2], a[3]), 1);
            if (a[3] < 1000000) Due.is(what + " is not more", answer(a[0], a[1], 5, a[2], a[3] + 1), 0);
            Due.by("(it has the sign of the MEASURE)");
            Due.is("-" + what, answer(-a[0], a[1], 5, a[2], -a[3]), whole ? 1 : 0);
            Due.is("-" + what, answer(-a[0], a[1], 5, a[2], -a[3] - 1), 1);
            Due.is("-" + what, answer(-a[0], a[1], 5, a[2], -a[3] + 1), 0);
        }
        Due.by(TOLD[5]);
        Due.is("a part of 2 ^ -20 is more than 0", answer(1, -20, 5, 1, 0), 1);
        Due.is("and less than 1", answer(1, -20, 5, 1000000, 1), 0);
        Due.is("less than 0", answer(-1, -20, 5, 1, 0), 0);
        Due.is("but more than -1", answer(-1, -20, 5, 1, -1), 1);
        Due.is("1 less a part, of 1", answer(1048575, -20, 5, 1, 1), 0);
        Due.is("1, of 1", answer(1048576, -20, 5, 1, 1), 0);
        Due.is("1, of 2", answer(1048576, -20, 5, 2, 1), 1);
        Due.is("1 less a part, of 2", answer(1048575, -20, 5, 2, 1), 0);
        Due.is("-1 less a part, of 2", answer(-1048577, -20, 5, 2, -1), 0);
        Due.is("-1, of 2", answer(-1048576, -20, 5, 2, -1), 1);
        Due.is("0", answer(0, 100, 5, 1, 0), 1);
        Due.is("0", answer(0, 100, 5, 1, 1), 0);
        Due.is("least r", answer(-999999, 0, 5, 1000000, -1000000), 1);
        Due.is("greatest r", answer(999999, 0, 5, 1000000, 1000000), 0);
        int[] by = {1, 2, 3, 7, 999983, 999999, 1000000};
        for (int q : by) {
            for (int e = 0; e <= 100; e += e < 22 ? 1 : 13) {
                int rest = BigInteger.valueOf(16777215).shiftLeft(e).mod(BigInteger.valueOf(q)).intValue();
                Due.is("16777215 * 2 ^ " + e + " by " + q, answer(16777215, e, 5, q, rest), 1);
                Due.is("16777215 * 2 ^ " + e + " by " + q, answer(16777215, e, 5, q, rest + 1), 0);
                Due.is("-16777215 * 2 ^ " + e + " by " + q, answer(-16777215, e, 5, q, -rest), 1);
                Due.is("-16777215 * 2 ^ " + e + " by " + q, answer(-16777215, e, 5, q, 1 - rest), 0);
            }
        }
    }

    private static void wholePart() {
        Due.by("(cut towards 0; one that is no long is the nearest long)");
        int[][] cut = {{7, 0, 7}, {15, -1, 7}, {-15, -1, -7}, {-7, 0, -7}, {1, -1, 0}, {-1, -1, 0}, {1048575, -20, 0}, {1048576, -20, 1},
            {-1048575, -20, 0}, {-1048576, -20, -1}, {16777216, -20, 16}, {-16777215, -20, -15}, {16777216, 0, 16777216}, {1, -20, 0}, {0, 100, 0}};
        for (int[] a : cut) {
            String what = a[0] + " * 2 ^ " + a[1];
            Due.is(what + " is " + a[2] + " or more", answer(a[0], a[1], 6, a[2], 0), 1);
            Due.is(what + " is " + (a[2] + 1) + " or more", answer(a[0], a[1], 6, a[2] + 1, 0), 0);
            Due.is(what + " is " + (a[2] - 1) + " or more", answer(a[0], a[1], 6, a[2] - 1, 0), 1);
        }
        Due.by(TOLD[6]);
        Due.is("2 ^ 62 against 2 ^ 62", answer(1, 62, 6, 1073741824, 32), 1);
        Due.is("2 ^ 62 against more", answer(1, 62, 6, 1073741825, 32), 0);
        Due.is("the greatest long that is a measure", answer(16777215, 39, 6, 2147483520, 32), 1);
        Due.is("the greatest long that is a measure", answer(16777215, 39, 6, 2147483521, 32), 0);
        Due.is("2 ^ 63 is no long", answer(1, 63, 6, MAX, 32), 1);
        Due.is("2 ^ 63 in another form", answer(16777216, 39, 6, MAX, 32), 1);
        Due.is("2 ^ 64, which would wrap to 0", answer(1, 64, 6, MAX, 32), 1);
        Due.is("3 * 2 ^ 62, which would wrap", answer(3, 62, 6, MAX, 32), 1);
        Due.is("the greatest of all", answer(16777216, 100, 6, MAX, 32), 1);
        Due.is("-(2 ^ 63) is a long", answer(-1, 63, 6, MIN, 32), 1);
        Due.is("-(2 ^ 63) is a long", answer(-1, 63, 6, MIN + 1, 32), 0);
        Due.is("-(2 ^ 64) is none", answer(-1, 64, 6, MIN, 32), 1);
        Due.is("-(2 ^ 64) is none", answer(-1, 64, 6, MIN + 1, 32), 0);
        Due.is("-(3 * 2 ^ 62) is none", answer(-3, 62, 6, MIN, 32), 1);
        Due.is("the least of all", answer(-16777216, 100, 6, MIN, 32), 1);
        Due.is("the least of all", answer(-16777216, 100, 6, MIN + 1, 32), 0);
        Due.is("the least long but some", answer(-16777215, 39, 6, -2147483520, 32), 1);
        Due.is("the least long but some", answer(-16777215, 39, 6, -2147483519, 32), 0);
        for (int r = 0; r <= 32; r++) {
            Due.is("2 ^ " + r, answer(1, r, 6, 1, r), 1);
            Due.is("2 ^ " + r + " less a part", answer(16777215, r - 24, 6, 1, r), 0);
            Due.is("-(2 ^ " + r + ")", answer(-1, r, 6, -1, r), 1);
            Due.is("-(2 ^ " + (r + 1) + ")", answer(-1, r + 1, 6, -1, r), 0);
            Due.is("0", answer(0, 0, 6, 0, r), 1);
        }
    }

    private static void givesName() {
        Due.by("YES if it gives it with 0 UNKNOWNS, NO if it does not give it, else UNKNOWN (8).");
        int[] ends = {0, 63};
        for (int n : ends) {
            for (int kind = 0; kind < 4; kind++) {
                HerbKey x = wide();
                x.key(kind);
                x.couplet(1, 0, 0, 0, 0);
                x.couplet(1, 0, 1, 0, 0);
                x.couplet(0, 7, 1, n, 0);
                x.couplet(0, 7, 1, 63 - n, 0);
                x.couplet(0, 7, 1, 31, 0);
                for (int c = 0; c < 3; c++) Due.is("gives none yet", x.ask(0, 0, c), 0);
                if (kind < 2) {
                    x.lead(1, 0, true, 1);
                    x.lead(1, 1, true, 100 + n);
                } else {
                    x.want(1, n, 0, 1);
                    x.want(1, n, 1, 1);
                }
                Due.is("0 unknowns", x.ask(0, 0, 0), 1);
                Due.is("another name", x.ask(0, 0, 1), 0);
                x.row(0, 0, 1);
                Due.is("1 unknown", x.ask(0, 0, 0), 2);
                Due.is("1 unknown", x.cause(0, 0, 0), 8);
                Due.is("another name", x.ask(0, 0, 1), 0);
                Due.is("another name", x.ask(0, 0, 2), 0);
                x.row(0, 0, 0);
                Due.is("2 unknowns", x.cause(0, 0, 0), 8);
                x.row(0, 0, 2);
                x.state(0, 1, 1);
                Due.is("not given", x.ask(0, 0, 0), 0);
            }
        }
    }

    /** Key 2 joins keys 0 and 1, which give name 5 if state 0, or state 1, is a 1; key 3 asks key 2 for it. */
    private static void givesNameJoined() {
        Due.by("YES if it gives it with 0 UNKNOWNS, NO if it does not give it, else UNKNOWN (8).");
        HerbKey x = wide();
        x.key(2);
        x.key(4);
        x.key(3);
        x.couplet(3, 7, 2, 5, 0);
        Due.is("joined of none", x.ask(3, 0, 0), 0);
        x.couplet(0, 0, 0, 1, 0);
        x.couplet(1, 0, 1, 1, 0);
        x.lead(0, 0, true, 105);
        x.want(1, 5, 0, 1);
        Due.well("join", x, x.join(2, 0, 1), 2);
        Due.is("neither gives it", x.ask(3, 0, 0), 0);
        x.state(0, 1, 1);
        Due.is("the second gives it", x.ask(3, 0, 0), 1);
        x.row(0, 0, 1);
        Due.is("the second is not sure", x.cause(3, 0, 0), 8);
        x.state(0, 0, 1);
        Due.is("the first gives it", x.ask(3, 0, 0), 1);
        x.drop(0);
        Due.is("the second is not sure", x.cause(3, 0, 0), 8);
        x.drop(1);
        Due.is("neither is there", x.ask(3, 0, 0), 0);
        x.drop(2);
        Due.is("no such key", x.cause(3, 0, 0), 6);
    }

    private static void scoreAsked() {
        Due.by("8 the SCORE of NAME q by KEY p, which is WEIGHTED, for this SHEET is r (-400 .. 400) or more.");
        for (int want = 0; want < 2; want++) {
            HerbKey x = wide();
            x.key(3);
            int edge = want == 1 ? 360 : -360;
            for (int c = 0; c < 40; c++) {
                x.couplet(1, 0, c, 0, 0);
                x.weigh(1, c, 9);
                x.want(1, 63, c, want);
            }
            x.learn(1, 0, 0);
            Due.well("all couplets at 9", x, x.score(1, 0, 63), edge);
            int[] r = {-400, edge - 1, edge, edge + 1, 400};
            for (int c = 0; c < r.length; c++) {
                x.couplet(0, 8, 1, 63, r[c]);
                Due.is(edge + " is " + r[c] + " or more", x.ask(0, 0, c), edge >= r[c] ? 1 : 0);
                Due.is("never not sure", x.cause(0, 0, c), 0);
            }
            x.couplet(0, 8, 1, 1, 0);
            x.couplet(0, 8, 1, 1, 1);
            Due.is("of a name not known it is 0", x.ask(0, 0, 5), 1);
            Due.is("of a name not known it is 0", x.ask(0, 0, 6), 0);
            x.couplet(0, 8, 1, 0, 360);
            Due.is("of name 0", x.ask(0, 0, 7), 1);
            x.row(0, 0, 39);
            Due.is("one is unknown", x.ask(0, 0, 7), 0);
            Due.is("one is unknown", x.ask(0, 0, 2), want == 1 ? 0 : 1);
        }
    }

    private static void ringsOfKeys() {
        Due.by("what would make a KEY ask itself, at once or through others, is refused.");
        for (int kind = 0; kind < 4; kind++) {
            for (int ask = 7; ask < 9; ask++) {
                HerbKey x = new HerbKey();
                x.key(kind);
                x.key(kind);
                x.key(4);
                Due.refused("itself", x, x.couplet(0, ask, 0, 0, 0), 6);
                Due.well("one that is none", x, x.couplet(0, ask, 3, 0, 0), 0);
                Due.well("another", x, x.couplet(0, ask, 1, 0, 0), 1);
                Due.refused("back", x, x.couplet(1, ask, 0, 0, 0), 6);
                Due.refused("back, by the other ask", x, x.couplet(1, 15 - ask, 0, 0, 0), 6);
                Due.well("joined", x, x.join(2, 0, 1), 2);
                Due.refused("through the joined one's first", x, x.couplet(0, ask, 2, 0, 0), 6);
                Due.refused("through its second", x, x.couplet(1, ask, 2, 0, 0), 6);
                Due.well("the number that was none", x, x.key(4), 3);
                Due.refused("key 0 asks it now", x, x.join(3, 1, 0), 6);
                Due.refused("through the joined one", x, x.join(3, 2, 2), 6);
                Due.well("one that does not ask it", x, x.join(3, 1, 1), 1);
                Due.is("changes", x.changes(), 8);
            }
        }
        HerbKey x = new HerbKey();
        for (int i = 0; i < 3; i++) x.key(2);
        x.couplet(0, 7, 1, 0, 0);
        x.couplet(1, 7, 2, 0, 0);
        Due.refused("through key 1", x, x.couplet(2, 7, 0, 0, 0), 6);
        x.drop(1);
        Due.well("key 1 is none now", x, x.couplet(2, 7, 0, 0, 0), 0);
        Due.refused("not through key 1", x, x.couplet(0, 8, 2, 0, 0), 6);
    }

    /** 40 keys in a row: the last may ask all but itself, the first none of them. */
    private static void longestRings() {
        Due.by("A KEY ASKS the KEYS of such COUPLETS, and a JOINED one its two");
        HerbKey x = new HerbKey();
        for (int i = 0; i < 40; i++) x.key(i % 2 == 0 ? 3 : 4);
        for (int i = 1; i < 40; i++) {
            if (i % 2 == 0) Due.well("couplet", x, x.couplet(i, 7, i - 1, 0, 0), 0);
            else Due.well("join", x, x.join(i, i - 1, i - 1), i);
        }
        for (int i = 2; i < 40; i += 2) Due.refused("0 asks " + i, x, x.couplet(0, 8, i, 0, 0), 6);
        for (int i = 3; i < 40; i += 2) Due.refused("0 asks " + i, x, x.couplet(0, 7, i, 0, 0), 6);
        Due.refused("1 asks 39", x, x.join(1, 0, 39), 6);
        Due.well("38 asks all that are less", x, x.couplet(38, 7, 0, 0, 0), 1);
        Due.well("39 asks all others", x, x.join(39, 38, 0), 39);
        Due.well("names of a key that asks all others", x, x.names(39, 0), 0);
        Due.well("sure", x, x.sure(39, 0), BAD);
        Due.well("next", x, x.next(38, 0), 0);
        x.drop(20);
        Due.well("those that are there", x, x.join(39, 38, 38), 19);
        Due.well("no ring any more", x, x.join(1, 0, 39), 20);
    }
}
