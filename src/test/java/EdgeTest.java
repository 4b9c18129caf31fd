import java.math.BigInteger;
import java.util.ArrayList;
import java.util.List;

/** The promises, 1 to 43: each sentence that names a boundary case, at the boundary and on both sides of it. */
public final class EdgeTest {
    private static final int BAD = Due.BAD;
    private static final int MIN = Due.MIN;
    private static final int MAX = Due.MAX;

    public static void main(String[] args) {
        newObject();
        sheet();
        lose();
        rowMissing();
        measureNumbers();
        lackHow();
        readWholePart();
        readNearestLong();
        readLacking();
        mergeRows();
        mergeMeasures();
        mergeItself();
        keyEmpty();
        drop();
        coupletNumbers();
        leadTo();
        leadRings();
        joinCounts();
        joinOneOfThree();
        regionCounts();
        wants();
        learnCounts();
        askJoined();
        namesAll();
        namesTillAgain();
        noNamesAtFirst();
        pickAsItIsNow();
        pickOrder();
        proofParts();
        proofMayBeBad();
        forgeRange();
        checkNone();
        sure();
        scoreMayBeBad();
        nextOfTwoNumbers();
        nextOfAllNames();
        nextTies();
        nextNone();
        compare();
        unreached();
        depth();
        parts();
        trace();
        undoAll();
        undoOfTheFirst();
        undoKeepsRowAndProof();
        changesAsBefore();
        statusNeverRefused();
        changesOfEach();
        digestOfNothing();
        digestWraps();
        Due.end("the promises hold at their edges");
    }

    /** Sheet 0 with n states, all 1; key 0 of a kind with m couplets: is state c a 1? */
    private static HerbKey house(int n, int kind, int m) {
        HerbKey x = new HerbKey();
        x.sheet();
        x.row(0, 0, n);
        for (int p = 0; p < n; p++) x.state(0, p, 1);
        x.key(kind);
        for (int c = 0; c < m; c++) x.couplet(0, 0, c, 1, 0);
        return x;
    }

    /** Two couplets: 0 leads to 1 by YES and to name 12 by NO, 1 to names 10 (YES) and 11. */
    private static HerbKey tree(int n) {
        HerbKey x = house(n, 0, 2);
        x.lead(0, 0, true, 1);
        x.lead(0, 0, false, 112);
        x.lead(0, 1, true, 110);
        x.lead(0, 1, false, 111);
        return x;
    }

    // ---- sheets

    private static void newObject() {
        Due.by("No SHEETS, no KEYS, no PROOF, no CHANGES.");
        HerbKey x = new HerbKey();
        Due.is("status", x.status(), 0);
        Due.is("changes", x.changes(), 0);
        Due.is("digest", x.digest(), 7 * 31 * 31);
        Due.refused("no sheet", x, x.lose(0), 2);
        Due.refused("no key", x, x.drop(0), 1);
        Due.refused("no proof", x, x.check(), 7);
        Due.refused("no changes", x, x.undo(), 7);
        Due.well("the first sheet", x, x.sheet(), 0);
        Due.well("the first key", x, x.key(0), 0);
        Due.is("changes", x.changes(), 2);
    }

    private static void sheet() {
        Due.by("A new SHEET; answers its number. 8: 40 were made.");
        HerbKey x = new HerbKey();
        for (int i = 0; i < 39; i++) x.sheet();
        Due.well("the 40th", x, x.sheet(), 39);
        Due.refused("the 41st", x, x.sheet(), 8);
        for (int i = 0; i < 40; i++) x.lose(i);
        Due.refused("all are lost, but 40 were made", x, x.sheet(), 8);
        for (int i = 0; i < 41; i++) x.undo();
        Due.well("39 were made: the 40th", x, x.sheet(), 39);
        Due.refused("the 41st", x, x.sheet(), 8);
    }

    private static void lose() {
        Due.by("A SHEET is none from now on; answers how many there are. 2.");
        HerbKey x = new HerbKey();
        for (int i = 0; i < 40; i++) x.sheet();
        int[] order = {39, 0, 20};
        int left = 40;
        for (int s : order) {
            left--;
            Due.well("lose " + s, x, x.lose(s), left);
            Due.refused("once more", x, x.lose(s), 2);
        }
        for (int s = 1; s < 39; s++) {
            if (s == 20) continue;
            left--;
            Due.well("lose " + s, x, x.lose(s), left);
        }
        Due.is("none", left, 0);
        int[] none = {-1, 0, 39, 40, MIN, MAX};
        for (int s : none) Due.refused("lose " + s, x, x.lose(s), 2);
    }

    private static void rowMissing() {
        Due.by("A ROW of a SHEET is a new one of so many PLACES, or missing, for -1; answers n. 2, 3, 5: n is not -1 to 40.");
        HerbKey x = house(40, 0, 1);
        for (int kind = 0; kind < 3; kind++) {
            Due.well("missing", x, x.row(0, kind, -1), -1);
            Due.refused("no place", x, x.read(0, kind, 0), 3);
            Due.well("missing already", x, x.row(0, kind, -1), -1);
            Due.well("0", x, x.row(0, kind, 0), 0);
            Due.refused("no place", x, x.read(0, kind, 0), 3);
            Due.well("40", x, x.row(0, kind, 40), 40);
            Due.refused("41", x, x.row(0, kind, 41), 5);
            Due.refused("-2", x, x.row(0, kind, -2), 5);
            Due.well("still 40", x, x.read(0, kind, 39), 0);
        }
        Due.is("0 places are no missing row", x.row(0, 0, 0), 0);
        Due.is("cause", x.cause(0, 0, 0), 3);
        x.row(0, 0, -1);
        Due.is("cause", x.cause(0, 0, 0), 2);
    }

    private static void measureNumbers() {
        Due.by("A MEASURE becomes n * 2 ^ e; answers n. 2, 3; 5: n is not -16777216 to 16777216, or e not -20 to 100.");
        HerbKey x = house(0, 0, 0);
        x.row(0, 1, 40);
        int[] numbers = {-16777216, -16777215, -1, 0, 1, 16777215, 16777216};
        int[] powers = {-20, -19, -1, 0, 1, 99, 100};
        for (int n : numbers) for (int e : powers) Due.well(n + ", " + e, x, x.measure(0, 39, n, e), n);
        x.measure(0, 39, 5, 0);
        int[] beyond = {-16777217, 16777217, MIN, MAX};
        for (int n : beyond) Due.refused("n " + n, x, x.measure(0, 39, n, 0), 5);
        int[] beyondPowers = {-21, 101, MIN, MAX};
        for (int e : beyondPowers) Due.refused("e " + e, x, x.measure(0, 39, 0, e), 5);
        Due.refused("both", x, x.measure(0, 39, 16777217, 101), 5);
        Due.well("kept", x, x.read(0, 1, 39), 40);
    }

    private static void lackHow() {
        Due.by("A MEASURE becomes NONE (0), ENDLESS above (1) or below (2); answers how. 2, 3; 5: no such how.");
        HerbKey x = house(0, 0, 0);
        x.row(0, 1, 1);
        long[] reads = {0, Long.MAX_VALUE, Long.MIN_VALUE};
        for (int how = 0; how < 3; how++) {
            Due.well("lack", x, x.lack(0, 0, how), how);
            Due.refused("-1", x, x.lack(0, 0, -1), 5);
            Due.refused("3", x, x.lack(0, 0, 3), 5);
            Due.well("kept", x, x.read(0, 1, 0), reads[how]);
        }
    }

    private static long eightTimes(int n, int e) {
        HerbKey x = new HerbKey();
        x.sheet();
        x.row(0, 1, 1);
        x.measure(0, 0, n, e);
        return x.read(0, 1, 0);
    }

    private static void readWholePart() {
        Due.by("A STATE, a CODE, or the whole part (as in ASK 6) of 8 times a MEASURE");
        int[][] of = {{1, -3, 1}, {1, -4, 0}, {-1, -4, 0}, {15, -4, 7}, {-15, -4, -7}, {16, -4, 8}, {-16, -4, -8}, {17, -4, 8}, {-17, -4, -8},
            {1, 0, 8}, {-1, 0, -8}, {0, 100, 0}, {0, -20, 0}, {1, -20, 0}, {131071, -20, 0}, {131072, -20, 1}, {-131071, -20, 0},
            {-131072, -20, -1}, {262143, -20, 1}, {16777216, -20, 128}, {-16777216, -20, -128}, {16777215, -20, 127}, {-16777215, -20, -127},
            {16777216, 0, 134217728}, {-16777216, 0, -134217728}};
        for (int[] a : of) Due.is("8 times " + a[0] + " * 2 ^ " + a[1], eightTimes(a[0], a[1]), a[2]);
    }

    private static void readNearestLong() {
        Due.by("one that is no long is the nearest long");
        Due.is("2 ^ 62", eightTimes(1, 59), 1L << 62);
        Due.is("2 ^ 63", eightTimes(1, 60), Long.MAX_VALUE);
        Due.is("2 ^ 64", eightTimes(1, 61), Long.MAX_VALUE);
        Due.is("-(2 ^ 62)", eightTimes(-1, 59), -(1L << 62));
        Due.is("-(2 ^ 63)", eightTimes(-1, 60), Long.MIN_VALUE);
        Due.is("-(2 ^ 64)", eightTimes(-1, 61), Long.MIN_VALUE);
        Due.is("3 * 2 ^ 61", eightTimes(3, 58), 3L << 61);
        Due.is("3 * 2 ^ 62", eightTimes(3, 59), Long.MAX_VALUE);
        Due.is("-(3 * 2 ^ 61)", eightTimes(-3, 58), -(3L << 61));
        Due.is("-(3 * 2 ^ 62)", eightTimes(-3, 59), Long.MIN_VALUE);
        Due.is("(2 ^ 24 - 1) * 2 ^ 39", eightTimes(16777215, 36), 16777215L << 39);
        Due.is("(2 ^ 24 - 1) * 2 ^ 40", eightTimes(16777215, 37), Long.MAX_VALUE);
        Due.is("2 ^ 24 * 2 ^ 38", eightTimes(16777216, 35), 1L << 62);
        Due.is("2 ^ 24 * 2 ^ 39", eightTimes(16777216, 36), Long.MAX_VALUE);
        Due.is("-(2 ^ 24) * 2 ^ 39", eightTimes(-16777216, 36), Long.MIN_VALUE);
        Due.is("-(2 ^ 24 - 1) * 2 ^ 39", eightTimes(-16777215, 36), -(16777215L << 39));
        Due.is("-(2 ^ 24 - 1) * 2 ^ 40", eightTimes(-16777215, 37), Long.MIN_VALUE);
        Due.is("the greatest of all", eightTimes(16777216, 100), Long.MAX_VALUE);
        Due.is("the least of all", eightTimes(-16777216, 100), Long.MIN_VALUE);
        Due.is("1 at the greatest power", eightTimes(1, 100), Long.MAX_VALUE);
        Due.is("0 at the greatest power", eightTimes(0, 100), 0);
        for (int e = -20; e <= 100; e++) {
            int[] numbers = {1, -1, 16777215, -16777215, 10000019};
            for (int n : numbers) {
                BigInteger v = BigInteger.valueOf(n).multiply(BigInteger.valueOf(8)).multiply(BigInteger.ONE.shiftLeft(e + 20))
                        .divide(BigInteger.ONE.shiftLeft(20));
                long due = v.min(BigInteger.valueOf(Long.MAX_VALUE)).max(BigInteger.valueOf(Long.MIN_VALUE)).longValue();
                Due.is("8 times " + n + " * 2 ^ " + e, eightTimes(n, e), due);
            }
        }
    }

    private static void readLacking() {
        Due.by("0 for NONE, the greatest or least long for ENDLESS ones. 2, 3.");
        HerbKey x = house(1, 0, 0);
        x.row(0, 1, 3);
        for (int how = 0; how < 3; how++) x.lack(0, how, how);
        Due.well("none", x, x.read(0, 1, 0), 0);
        Due.well("above", x, x.read(0, 1, 1), Long.MAX_VALUE);
        Due.well("below", x, x.read(0, 1, 2), Long.MIN_VALUE);
        Due.refused("place 3", x, x.read(0, 1, 3), 3);
        Due.refused("place -1", x, x.read(0, 1, -1), 3);
        Due.refused("row 2 is missing", x, x.read(0, 2, 0), 3);
        Due.refused("sheet 1", x, x.read(1, 1, 0), 2);
        x.state(0, 0, -1);
        Due.well("a state of -1 is no refusal", x, x.read(0, 0, 0), -1);
    }

    private static void mergeRows() {
        Due.by("of each kind a missing ROW becomes one like that of b");
        for (int n = 0; n <= 40; n += 20) {
            HerbKey x = new HerbKey();
            x.sheet();
            x.sheet();
            for (int kind = 0; kind < 3; kind++) {
                Due.well("b lacks all", x, x.merge(0, 1), kind);
                x.undo();
                x.row(1, kind, n);
                if (n == 0) continue;
                if (kind == 0) x.state(1, n - 1, -128);
                if (kind == 1) x.lack(1, n - 1, 2);
                if (kind == 2) x.code(1, n - 1, 65535);
            }
            Due.well("three rows", x, x.merge(0, 1), 3);
            Due.well("none more", x, x.merge(0, 1), 0);
            long[] last = {-128, Long.MIN_VALUE, 65535};
            for (int kind = 0; kind < 3; kind++) {
                Due.refused("as long as that of b", x, x.read(0, kind, n), 3);
                if (n > 0) Due.well("the last place", x, x.read(0, kind, n - 1), last[kind]);
            }
            if (n == 0) continue;
            x.state(0, 0, 3);
            x.code(1, 0, 4);
            Due.is("b keeps its own", x.read(1, 0, 0), 0);
            Due.is("a keeps its own", x.read(0, 2, 0), 0);
        }
        HerbKey x = new HerbKey();
        x.sheet();
        x.sheet();
        x.row(0, 0, 0);
        x.row(1, 0, 5);
        Due.well("a row of 0 places is not missing", x, x.merge(0, 1), 0);
        Due.refused("still 0", x, x.read(0, 0, 0), 3);
        x.row(0, 0, 1);
        x.state(1, 0, 7);
        Due.well("states and codes that are there stay", x, x.merge(0, 1), 0);
        Due.is("stays", x.read(0, 0, 0), 0);
    }

    private static void mergeMeasures() {
        Due.by("in other MEASURES each NONE becomes what b has at that PLACE, if there is one, and it is not NONE.");
        // At place p of b stands what number (p + turn) % 4 of these tells: NONE, above, below, 3.
        long[] reads = {0, Long.MAX_VALUE, Long.MIN_VALUE, 24};
        for (int turn = 0; turn < 4; turn++) {
            for (int ofA = 1; ofA <= 5; ofA++) {
                for (int ofB = 0; ofB <= 5; ofB++) {
                    HerbKey x = new HerbKey();
                    x.sheet();
                    x.sheet();
                    x.row(0, 1, ofA);
                    x.row(1, 1, ofB);
                    for (int p = 0; p < ofA; p++) x.lack(0, p, 0);
                    for (int p = 0; p < ofB; p++) {
                        if ((p + turn) % 4 < 3) x.lack(1, p, (p + turn) % 4); else x.measure(1, p, 6, -1);
                    }
                    int both = Math.min(ofA, ofB);
                    int due = 0;
                    for (int p = 0; p < both; p++) if ((p + turn) % 4 != 0) due++;
                    Due.well(ofA + " of " + ofB, x, x.merge(0, 1), due);
                    for (int p = 0; p < ofA; p++) Due.well("place " + p, x, x.read(0, 1, p), p < both ? reads[(p + turn) % 4] : 0);
                    Due.refused("no place more", x, x.read(0, 1, ofA), 3);
                    x.undo();
                    for (int p = 0; p < ofA; p++) Due.well("taken back, place " + p, x, x.read(0, 1, p), 0);
                    Due.well("again", x, x.merge(0, 1), due);
                }
            }
        }
        HerbKey x = new HerbKey();
        x.sheet();
        x.sheet();
        x.row(0, 1, 4);
        x.row(1, 1, 4);
        x.lack(0, 1, 1);
        x.lack(0, 2, 2);
        x.measure(0, 3, 1, 0);
        for (int p = 0; p < 4; p++) x.measure(1, p, 5, 0);
        Due.well("numbers, 0 too, and endless ones stay", x, x.merge(0, 1), 0);
        long[] stay = {0, Long.MAX_VALUE, Long.MIN_VALUE, 8};
        for (int p = 0; p < 4; p++) Due.is("place " + p, x.read(0, 1, p), stay[p]);
    }

    private static void mergeItself() {
        Due.by("Answers how many ROWS and MEASURES came (0, too, if a is b). 2.");
        HerbKey x = new HerbKey();
        x.sheet();
        Due.well("no rows", x, x.merge(0, 0), 0);
        x.row(0, 1, 2);
        x.lack(0, 0, 0);
        x.measure(0, 1, 1, 0);
        Due.well("a row, one none", x, x.merge(0, 0), 0);
        Due.is("a change, too", x.changes(), 6);
        Due.is("stays", x.read(0, 1, 1), 8);
        Due.refused("no a", x, x.merge(1, 0), 2);
        Due.refused("no b", x, x.merge(0, 1), 2);
        Due.refused("neither", x, x.merge(1, 1), 2);
        Due.refused("neither", x, x.merge(-1, -1), 2);
    }

    // ---- keys

    private static void keyEmpty() {
        Due.by("A new KEY of a KIND, without COUPLETS (JOINED: of two that are none); answers its number.");
        HerbKey x = new HerbKey();
        for (int kind = 0; kind < 5; kind++) {
            Due.well("key", x, x.key(kind), kind);
            Due.refused("couplet 0", x, x.ask(kind, 0, 0), 3);
            Due.well("gives none", x, x.names(kind, 0), 0);
            Due.well("sure of none", x, x.sure(kind, 0), BAD);
        }
        Due.well("joined of none: asks these then", x, x.join(4, 0, 1), 2);
        x.undo();
        Due.is("of none again", x.digest(), new Fold().add(0, 5, 0, 0, 1, 0, -1, 2, 0, 3, 0, 0, 4, 0, -1, -1).d);
    }

    private static void drop() {
        Due.by("A KEY is none from now on; answers how many there are. 1.");
        HerbKey x = new HerbKey();
        for (int i = 0; i < 40; i++) x.key(i % 5);
        int[] order = {39, 0, 20};
        int left = 40;
        for (int k : order) {
            left--;
            Due.well("drop " + k, x, x.drop(k), left);
            Due.refused("once more", x, x.drop(k), 1);
        }
        for (int k = 1; k < 39; k++) {
            if (k == 20) continue;
            left--;
            Due.well("drop " + k, x, x.drop(k), left);
        }
        Due.is("none", left, 0);
        int[] none = {-1, 0, 39, 40, MIN, MAX};
        for (int k : none) Due.refused("drop " + k, x, x.drop(k), 1);
        Due.refused("40 were made", x, x.key(0), 8);
    }

    private static void coupletNumbers() {
        Due.by("One more COUPLET; answers its number. 1; 4: JOINED; 5: no such ASK, or p, q, r not as told; 8: it has 40; 6.");
        for (int kind = 0; kind < 4; kind++) {
            HerbKey x = house(0, kind, 39);
            Due.well("the 40th", x, x.couplet(0, 6, 60, MIN, 32), 39);
            Due.refused("the 41st", x, x.couplet(0, 6, 60, MIN, 32), 8);
            Due.refused("5 ahead of 8", x, x.couplet(0, 6, 61, MIN, 32), 5);
            Due.refused("8 ahead of 6", x, x.couplet(0, 7, 0, 0, 0), 8);
            x.undo();
            Due.refused("6, now that there is room", x, x.couplet(0, 7, 0, 0, 0), 6);
            Due.well("the 40th", x, x.couplet(0, 6, 60, MIN, 32), 39);
        }
    }

    private static void leadTo() {
        Due.by("to a COUPLET that there is (its number), a NAME (100 and its number), or nowhere (-1); answers to.");
        for (int kind = 0; kind < 2; kind++) {
            for (int n = 1; n <= 40; n += 39) {
                HerbKey x = house(0, kind, n);
                int[] fine = {-1, 100, 101, 162, 163};
                for (int to : fine) {
                    Due.well("to " + to, x, x.lead(0, n - 1, true, to), to);
                    Due.well("to " + to, x, x.lead(0, n - 1, false, to), to);
                }
                int[] none = {-2, n, 40, 41, 99, 164, MIN, MAX};
                for (int to : none) Due.refused("to " + to, x, x.lead(0, n - 1, true, to), 3);
                if (n > 1) Due.well("to the last", x, x.lead(0, 0, true, n - 1), n - 1);
                if (n > 1) Due.refused("to the first", x, x.lead(0, n - 1, true, 0), 6);
            }
        }
    }

    private static void leadRings() {
        Due.by("6: a COUPLET would come to itself by LEADS.");
        HerbKey x = house(0, 0, 40);
        for (int c = 0; c < 40; c++) {
            Due.refused("to itself by NO", x, x.lead(0, c, false, c), 6);
            Due.refused("to itself by YES", x, x.lead(0, c, true, c), 6);
        }
        for (int c = 0; c < 39; c++) x.lead(0, c, c % 2 == 0, c + 1);
        for (int c = 0; c < 39; c += 19) Due.refused("from the last back to " + c, x, x.lead(0, 39, true, c), 6);
        Due.well("on by the other lead, too", x, x.lead(0, 0, false, 39), 39);
        x.lead(0, 20, true, -1);
        Due.well("where the row is cut, no ring is made", x, x.lead(0, 39, true, 1), 1);
        Due.refused("but this one", x, x.lead(0, 20, false, 39), 6);
        x = house(0, 1, 3);
        x.lead(0, 1, true, 2);
        Due.refused("of couplets never come to", x, x.lead(0, 2, false, 1), 6);
        x.lead(0, 1, true, 105);
        Due.well("the lead that is replaced does not count", x, x.lead(0, 2, false, 1), 1);
    }

    private static void joinCounts() {
        Due.by("answers how many KEYS it asks then, at once or through others (those that are there, each once).");
        HerbKey x = new HerbKey();
        for (int i = 0; i < 39; i++) x.key(2);
        x.key(4);
        Due.well("one twice", x, x.join(39, 0, 0), 1);
        Due.well("two", x, x.join(39, 0, 38), 2);
        for (int i = 0; i < 38; i++) x.couplet(i + 1, i % 2 == 0 ? 7 : 8, i, 0, 0);
        Due.well("all others", x, x.join(39, 38, 38), 39);
        Due.well("each once", x, x.join(39, 38, 0), 39);
        Due.well("through none", x, x.join(39, 0, 0), 1);
        x.couplet(0, 7, 60, 0, 0);
        x.couplet(0, 7, -1, 0, 0);
        Due.well("numbers that are no key's do not count", x, x.join(39, 0, 0), 1);
        x.drop(19);
        Due.well("not through one that is none", x, x.join(39, 38, 38), 19);
        x.undo();
        x.undo();
        Due.well("it is there again", x, x.join(39, 38, 38), 39);
    }

    private static void joinOneOfThree() {
        Due.by("1: one of the three; 4, 6.");
        HerbKey x = new HerbKey();
        x.key(4);
        x.key(0);
        x.key(2);
        x.key(2);
        x.drop(3);
        int[] none = {-1, 3, 4, 40, MIN, MAX};
        for (int k : none) {
            Due.refused("the key", x, x.join(k, 1, 2), 1);
            Due.refused("the first", x, x.join(0, k, 2), 1);
            Due.refused("the second", x, x.join(0, 1, k), 1);
            Due.refused("ahead of 4", x, x.join(1, 2, k), 1);
            Due.refused("ahead of 6", x, x.join(0, 0, k), 1);
        }
        Due.refused("4 ahead of 6", x, x.join(1, 1, 1), 4);
        Due.refused("itself first", x, x.join(0, 0, 1), 6);
        Due.refused("itself second", x, x.join(0, 1, 0), 6);
        Due.refused("itself twice", x, x.join(0, 0, 0), 6);
        Due.well("two others", x, x.join(0, 1, 2), 2);
    }

    private static void regionCounts() {
        Due.by("The REGION: bit n of names for NAME n; answers how many NAMES are in it.");
        HerbKey x = house(0, 1, 1);
        Due.well("none", x, x.region(0, 0), 0);
        Due.well("all", x, x.region(0, -1L), 64);
        Due.well("all but 63", x, x.region(0, Long.MAX_VALUE), 63);
        Due.well("63", x, x.region(0, Long.MIN_VALUE), 1);
        Due.well("all but 0", x, x.region(0, -2L), 63);
        for (int n = 0; n < 64; n++) {
            x.lead(0, 0, true, 100 + n);
            Due.well("one", x, x.region(0, 1L << n), 1);
            Due.is("bit " + n, x.names(0, 0), 1);
            x.region(0, ~(1L << n));
            Due.is("no bit " + n, x.names(0, 0), 0);
        }
    }

    private static void wants() {
        Due.by("What a NAME wants of a TABLE's COUPLET: 0 NO, 1 YES, 2 ANY; answers it.");
        HerbKey x = house(40, 2, 40);
        for (int c = 0; c < 40; c += 39) {
            for (int n = 0; n < 64; n += 63) {
                for (int w = 0; w < 3; w++) {
                    Due.well("want", x, x.want(0, n, c, w), w);
                    Due.is("given", x.names(0, 0), w == 1 ? 1 : 0);
                    Due.refused("-1", x, x.want(0, n, c, -1), 5);
                    Due.refused("3", x, x.want(0, n, c, 3), 5);
                    Due.is("kept", x.names(0, 0), w == 1 ? 1 : 0);
                }
            }
        }
    }

    private static void learnCounts() {
        Due.by("All WANTS of a NAME in a TABLE become the ANSWERS for a SHEET (UNKNOWN ones ANY); answers how many are not ANY.");
        for (int n = 0; n <= 40; n++) {
            HerbKey x = house(n, 2 + n % 2, 40);
            if (n > 1) x.state(0, n - 1, 0);
            x.want(0, 63, 39, 1);
            x.want(0, 63, 0, 0);
            Due.well("learn", x, x.learn(0, 0, 63), n);
            if (n == 0) {
                Due.is("not known", x.names(0, 0), 0);
            } else {
                Due.is("given", x.sure(0, 0), 63);
                Due.well("row", x, x.names(0, 0), 1);
                Due.well("all that are answered", x, x.pick(0), n);
                Due.is("the first", x.proof(0), 1);
                Due.is("the last", x.proof(n - 1), 4 * (n - 1) + (n > 1 ? 0 : 1));
            }
        }
        HerbKey x = house(2, 2, 2);
        x.learn(0, 0, 5);
        Due.well("of no sheet", x, x.learn(0, 1, 5), 0);
        Due.is("not known", x.names(0, 0), 0);
    }

    // ---- answers and names

    private static void askJoined() {
        Due.by("The ANSWER of a COUPLET for a SHEET: 0 NO, 1 YES, 2 UNKNOWN. 1; 3 (JOINED, too).");
        HerbKey x = house(2, 0, 3);
        x.state(0, 1, 0);
        x.key(4);
        x.join(1, 0, 0);
        Due.well("yes", x, x.ask(0, 0, 0), 1);
        Due.well("no", x, x.ask(0, 0, 1), 0);
        Due.well("unknown", x, x.ask(0, 0, 2), 2);
        Due.refused("beyond", x, x.ask(0, 0, 3), 3);
        Due.refused("below", x, x.ask(0, 0, -1), 3);
        Due.refused("joined", x, x.ask(1, 0, 0), 3);
        Due.refused("joined", x, x.cause(1, 0, 0), 3);
        Due.refused("no key", x, x.ask(2, 0, 3), 1);
        Due.refused("no key", x, x.cause(2, 0, 3), 1);
    }

    private static void namesAll() {
        Due.by("These are in a row then, those with fewer UNKNOWNS first, of as many the lesser NAME, till names() comes again.");
        HerbKey x = house(0, 2, 3);
        for (int n = 0; n < 64; n++) for (int c = 0; c <= n % 3; c++) x.want(0, n, c, 1);
        Due.well("all 64", x, x.names(0, 0), 64);
        int at = 0;
        for (int u = 1; u <= 3; u++) {
            for (int n = u - 1; n < 64; n += 3) {
                Due.is("name " + at, x.name(at), n);
                Due.is("unknowns " + at, x.unknowns(at), u);
                at++;
            }
        }
        Due.refused("name 64", x, x.name(64), 3);
        Due.refused("unknowns 64", x, x.unknowns(64), 3);
        Due.refused("pick 64", x, x.pick(64), 3);
        Due.well("pick 63", x, x.pick(63), 3);
    }

    private static void namesTillAgain() {
        Due.by("till names() comes again. 1.");
        HerbKey x = tree(0);
        Due.well("names", x, x.names(0, 0), 3);
        x.lead(0, 0, false, -1);
        Due.is("the row stays", x.name(0), 12);
        Due.refused("names of no key", x, x.names(1, 0), 1);
        Due.refused("names of no key", x, x.names(-1, 0), 1);
        Due.is("the row stays", x.name(0), 12);
        Due.is("its unknowns stay", x.unknowns(0), 1);
        Due.is("the whole of it", x.name(2), 11);
        x.drop(0);
        Due.is("the row stays", x.name(2), 11);
        x.undo();
        Due.well("names again", x, x.names(0, 0), 2);
        Due.is("another row", x.name(0), 10);
        Due.refused("a shorter one", x, x.name(2), 3);
        x.lead(0, 0, true, -1);
        Due.well("none", x, x.names(0, 0), 0);
        Due.refused("an empty row", x, x.name(0), 3);
        Due.refused("an empty row", x, x.unknowns(0), 3);
        Due.refused("an empty row", x, x.pick(0), 3);
    }

    private static void noNamesAtFirst() {
        Due.by("3: there is none (none at first).");
        HerbKey x = tree(0);
        for (int i = -1; i < 2; i++) {
            Due.refused("name " + i, x, x.name(i), 3);
            Due.refused("unknowns " + i, x, x.unknowns(i), 3);
            Due.refused("pick " + i, x, x.pick(i), 3);
        }
        x.sure(0, 0);
        x.next(0, 0);
        Due.refused("only names() makes it", x, x.name(0), 3);
    }

    private static void pickAsItIsNow() {
        Due.by("for the KEY and SHEET that names() was asked with, by all as it is now, becomes the PROOF");
        HerbKey x = tree(0);
        x.key(0);
        x.sheet();
        x.names(0, 0);
        x.sure(1, 1);
        Due.well("name 10", x, x.pick(1), 2);
        Due.is("key", x.proof(-1), 0);
        Due.is("sheet", x.proof(-2), 0);
        Due.is("taken as yes", x.proof(1), 7);
        x.row(0, 0, 2);
        x.state(0, 0, 1);
        x.state(0, 1, 1);
        Due.is("the proof stays", x.proof(1), 7);
        Due.well("name 10 now", x, x.pick(1), 2);
        Due.is("yes", x.proof(1), 5);
        x.lead(0, 0, true, 110);
        Due.well("a shorter way now", x, x.pick(1), 1);
        Due.refused("no entry 1", x, x.proof(1), 3);
        Due.is("the row stays", x.unknowns(1), 2);
    }

    private static void pickOrder() {
        Due.by("7: that KEY is none now, or does not give the NAME any more; 3: there is no NAME i. (3 ahead of 7, here.)");
        HerbKey x = tree(2);
        x.names(0, 0);
        Due.well("given", x, x.pick(0), 2);
        x.forge(0, 77);
        x.state(0, 1, 0);
        Due.refused("not given any more", x, x.pick(0), 7);
        Due.refused("3 ahead of it", x, x.pick(1), 3);
        Due.refused("3 ahead of it", x, x.pick(-1), 3);
        Due.is("the proof stays", x.proof(0), 77);
        x.undo();
        x.drop(0);
        Due.refused("the key is none", x, x.pick(0), 7);
        Due.refused("3 ahead of it", x, x.pick(1), 3);
        Due.is("the proof stays", x.proof(0), 77);
        x.undo();
        x.lose(0);
        Due.well("unknown now, but given", x, x.pick(0), 2);
        Due.is("taken as yes", x.proof(0), 3);
    }

    private static void proofParts() {
        Due.by("An ENTRY of the PROOF, from 0; -1 the SOURCE, -2 the SHEET's number, -3 the NAME");
        HerbKey x = tree(2);
        for (int j = -4; j < 2; j++) Due.refused("no proof yet", x, x.proof(j), 7);
        x.names(0, 0);
        Due.refused("names() takes none", x, x.proof(0), 7);
        x.pick(0);
        int[] due = {10, 0, 0, 1, 5};
        for (int j = -3; j < 2; j++) Due.well("proof " + j, x, x.proof(j), due[j + 3]);
        int[] none = {-4, 2, 40, MIN, MAX};
        for (int j : none) Due.refused("proof " + j, x, x.proof(j), 3);
    }

    private static void proofMayBeBad() {
        Due.by("(BAD may be one: STATUS tells). 7: no PROOF was taken; 3.");
        HerbKey x = tree(2);
        x.names(0, -1);
        x.pick(0);
        Due.well("the sheet's number is -1", x, x.proof(-2), -1);
        Due.refused("no such entry", x, x.proof(1), 3);
        Due.well("an entry", x, x.proof(0), 2);
    }

    private static void forgeRange() {
        Due.by("An ENTRY becomes v, answered. 7; 3: no ENTRY j (from 0); 5: v is not 0 to 255.");
        HerbKey x = tree(2);
        Due.refused("no proof, no entry, no such v", x, x.forge(9, 256), 7);
        x.names(0, 0);
        x.pick(0);
        int[] fine = {0, 1, 127, 128, 254, 255};
        for (int j = 0; j < 2; j++) {
            for (int v : fine) {
                Due.well("forge", x, x.forge(j, v), v);
                Due.well("proof", x, x.proof(j), v);
                Due.refused("-1", x, x.forge(j, -1), 5);
                Due.refused("256", x, x.forge(j, 256), 5);
                Due.is("kept", x.proof(j), v);
            }
        }
        int[] none = {-1, -2, -3, 2, 40, MIN, MAX};
        for (int j : none) {
            Due.refused("entry " + j, x, x.forge(j, 0), 3);
            Due.refused("entry " + j + ", 3 ahead of 5", x, x.forge(j, 256), 3);
        }
        Due.is("the source stays", x.proof(-1), 0);
        Due.is("the sheet stays", x.proof(-2), 0);
        Due.is("the name stays", x.proof(-3), 10);
        Due.is("no change", x.changes(), 11);
    }

    private static void checkNone() {
        Due.by("1 if the PROOF is RIGHT, otherwise 0. 7: no PROOF was taken.");
        HerbKey x = tree(2);
        Due.refused("none", x, x.check(), 7);
        x.names(0, 0);
        x.pick(1);
        Due.refused("a pick that was refused took none", x, x.check(), 7);
        x.pick(0);
        Due.well("right", x, x.check(), 1);
        x.forge(1, 4);
        Due.well("not right", x, x.check(), 0);
        x.forge(1, 5);
        Due.well("right", x, x.check(), 1);
    }

    private static void sure() {
        Due.by("The NAME that a KEY gives for a SHEET, if it is one alone, with 0 UNKNOWNS; else BAD, and 0 is STATUS. 1.");
        HerbKey x = house(1, 2, 2);
        Due.well("none", x, x.sure(0, 0), BAD);
        int[] names = {0, 1, 62, 63};
        for (int n : names) {
            x.want(0, n, 0, 1);
            Due.well("one alone", x, x.sure(0, 0), n);
            x.want(0, n, 1, 1);
            Due.well("one alone, 1 unknown", x, x.sure(0, 0), BAD);
            x.want(0, n, 0, 2);
            x.want(0, n, 1, 2);
        }
        x.want(0, 0, 0, 1);
        x.want(0, 63, 0, 1);
        Due.well("two", x, x.sure(0, 0), BAD);
        x.want(0, 63, 1, 1);
        Due.well("two, of which one has 0 unknowns", x, x.sure(0, 0), BAD);
        x.want(0, 63, 0, 0);
        Due.well("one alone again", x, x.sure(0, 0), 0);
        Due.refused("no key", x, x.sure(1, 0), 1);
        Due.refused("no key", x, x.sure(-1, 0), 1);
    }

    private static void scoreMayBeBad() {
        Due.by("The SCORE. 1; 4: not WEIGHTED; 3. (BAD may be one.)");
        HerbKey x = house(1, 3, 1);
        x.key(2);
        x.want(0, 63, 0, 0);
        Due.well("-1", x, x.score(0, 0, 63), -1);
        Due.refused("name 64", x, x.score(0, 0, 64), 3);
        Due.refused("name -1", x, x.score(0, 0, -1), 3);
        Due.refused("4 ahead of 3", x, x.score(1, 0, 64), 4);
        Due.refused("1 ahead of 3", x, x.score(2, 0, 64), 1);
        x.want(0, 63, 0, 1);
        Due.well("1", x, x.score(0, 0, 63), 1);
    }

    private static void nextOfTwoNumbers() {
        Due.by("the first of those of which the greater of two numbers is least: how many NAMES the KEY would give if this one were "
                + "answered YES, and NO, the others as they are.");
        // Of six names couplet 0 parts 1 and 5, couplet 1 parts 2 and 4, couplet 2 parts 3 and 3.
        for (int flip = 0; flip < 2; flip++) {
            HerbKey x = house(0, 2, 3);
            for (int n = 0; n < 6; n++) for (int c = 0; c < 3; c++) x.want(0, n, c, (n <= c ? 1 : 0) ^ flip);
            Due.well("3 and 3", x, x.next(0, 0), 2);
            x.row(0, 0, 3);
            Due.refused("all answered", x, x.next(0, 0), 7);
            x.row(0, 0, 2);
            Due.well("2 alone is unknown", x, x.next(0, 0), 2);
            x.row(0, 0, 0);
            for (int c = 0; c < 3; c++) x.want(0, 2, c, 2);
            // Now 1 and 4, 2 and 3, 2 and 3.
            Due.well("2 and 3, the first", x, x.next(0, 0), 1);
        }
        HerbKey x = house(0, 1, 3);
        x.lead(0, 0, true, 1);
        x.lead(0, 0, false, 2);
        x.lead(0, 1, true, 100);
        x.lead(0, 1, false, 101);
        x.lead(0, 2, true, 102);
        x.lead(0, 2, false, 103);
        Due.well("2 and 2", x, x.next(0, 0), 0);
        x.region(0, 3);
        Due.well("1 and 1 of the region's", x, x.next(0, 0), 1);
        x.region(0, 0);
        Due.well("0 and 0 of all", x, x.next(0, 0), 0);
        x = house(0, 3, 2);
        for (int n = 0; n < 4; n++) x.want(0, n, 0, n % 2);
        for (int n = 0; n < 4; n++) x.want(0, n, 1, n % 2);
        x.slack(0, 1);
        Due.well("within slack nothing is parted: the first", x, x.next(0, 0), 0);
        x.weigh(0, 1, 2);
        Due.well("1 is beyond slack", x, x.next(0, 0), 1);
    }

    private static void nextOfAllNames() {
        Due.by("how many NAMES the KEY would give if this one were answered YES, and NO, the others as they are.");
        HerbKey x = house(0, 2, 2);
        for (int n = 0; n < 64; n++) x.want(0, n, 0, 1);
        Due.well("64 and 0, or 64 and 64: the first", x, x.next(0, 0), 0);
        x.want(0, 63, 1, 1);
        Due.well("64 and 0, or 64 and 63: the first", x, x.next(0, 0), 0);
        x.want(0, 63, 0, 2);
        Due.well("64 and 1, or 64 and 63: the first", x, x.next(0, 0), 0);
        x.want(0, 63, 0, 0);
        Due.well("63 and 1, or 64 and 63", x, x.next(0, 0), 0);
        x.want(0, 0, 1, 0);
        Due.well("63 and 1, or 63 and 63: the first", x, x.next(0, 0), 0);
        x.want(0, 1, 1, 0);
        Due.well("63 and 1, or 62 and 63", x, x.next(0, 0), 0);
        x.want(0, 62, 1, 1);
        Due.well("63 and 1, or 62 and 62", x, x.next(0, 0), 1);
        x = house(0, 2, 2);
        for (int n = 0; n < 64; n++) x.want(0, n, 1, 1);
        Due.well("64 and 64, or 64 and 0: the first", x, x.next(0, 0), 0);
        x.want(0, 63, 1, 0);
        Due.well("64 and 64, or 63 and 1", x, x.next(0, 0), 1);
    }

    private static void nextTies() {
        Due.by("Of a KEY's COUPLETS that are UNKNOWN for a SHEET the first");
        HerbKey x = house(0, 0, 40);
        Due.well("all are alike", x, x.next(0, 0), 0);
        for (int n = 1; n < 40; n++) {
            x.row(0, 0, n);
            Due.well("the first unknown", x, x.next(0, 0), n);
        }
        x.row(0, 0, 40);
        Due.refused("none", x, x.next(0, 0), 7);
    }

    private static void nextNone() {
        Due.by("1; 4: JOINED; 7: none is UNKNOWN. (Behind 1 and 4, here.)");
        HerbKey x = house(1, 0, 1);
        x.key(4);
        x.key(2);
        Due.refused("all answered", x, x.next(0, 0), 7);
        Due.refused("no couplets", x, x.next(2, 0), 7);
        Due.refused("no couplets, no sheet", x, x.next(2, 5), 7);
        Due.refused("joined", x, x.next(1, 0), 4);
        Due.refused("no key", x, x.next(3, 0), 1);
        Due.well("one is unknown", x, x.next(0, 1), 0);
    }

    private static void compare() {
        Due.by("How many of a KEY's COUPLETS are NO for one of two SHEETS and YES for the other.");
        HerbKey x = house(40, 0, 40);
        x.sheet();
        Due.well("all unknown for one", x, x.compare(0, 0, 1), 0);
        x.row(1, 0, 40);
        Due.well("all 40", x, x.compare(0, 0, 1), 40);
        Due.well("all 40", x, x.compare(0, 1, 0), 40);
        Due.well("itself", x, x.compare(0, 1, 1), 0);
        x.state(1, 0, 1);
        Due.well("39", x, x.compare(0, 0, 1), 39);
        x.row(1, 0, 39);
        Due.well("one is unknown", x, x.compare(0, 0, 1), 39);
        x.row(1, 0, 1);
        Due.well("one is known", x, x.compare(0, 0, 1), 1);
        x.row(1, 0, 0);
        Due.well("none", x, x.compare(0, 0, 1), 0);
        Due.well("no sheets", x, x.compare(0, -1, 40), 0);
    }

    private static void unreached() {
        Due.by("how many COUPLETS no LEADS, one behind the other, from COUPLET 0 come to (COUPLET 0 is come to).");
        HerbKey x = house(0, 0, 0);
        Due.well("no couplets", x, x.unreached(0), 0);
        for (int c = 0; c < 40; c++) {
            x.couplet(0, 0, 0, 0, 0);
            Due.well("all but 0", x, x.unreached(0), c);
        }
        for (int c = 39; c > 1; c--) x.lead(0, c, false, c - 1);
        Due.well("none from 0", x, x.unreached(0), 39);
        x.lead(0, 0, true, 20);
        Due.well("20 to 1 are come to", x, x.unreached(0), 19);
        x.lead(0, 0, false, 39);
        Due.well("all", x, x.unreached(0), 0);
        x.lead(0, 0, true, 100);
        Due.well("by the other lead still", x, x.unreached(0), 0);
    }

    private static void depth() {
        Due.by("the most COUPLETS that LEADS go through from COUPLET 0 on, it being one (0 without it).");
        HerbKey x = house(0, 1, 0);
        Due.well("no couplets", x, x.depth(0), 0);
        for (int c = 0; c < 40; c++) x.couplet(0, 0, 0, 0, 0);
        Due.well("0 alone", x, x.depth(0), 1);
        for (int c = 0; c < 39; c++) {
            x.lead(0, c, c % 2 == 0, c + 1);
            Due.well("one more", x, x.depth(0), c + 2);
        }
        x.lead(0, 0, false, 39);
        Due.well("the most, not the fewest", x, x.depth(0), 40);
        x.lead(0, 0, true, 105);
        Due.well("two", x, x.depth(0), 2);
        x.lead(0, 0, false, 105);
        Due.well("names do not count", x, x.depth(0), 1);
    }

    private static void parts() {
        Due.by("Of how many of a TABLE's COUPLETS one of two NAMES wants NO and the other YES.");
        for (int kind = 2; kind < 4; kind++) {
            HerbKey x = house(0, kind, 40);
            Due.well("none", x, x.parts(0, 0, 63), 0);
            for (int c = 0; c < 40; c++) x.want(0, 0, c, c % 2);
            Due.well("the other wants any", x, x.parts(0, 0, 63), 0);
            for (int c = 0; c < 40; c++) {
                x.want(0, 63, c, 1 - c % 2);
                Due.well("of " + (c + 1), x, x.parts(0, 0, 63), c + 1);
            }
            Due.well("the other way round", x, x.parts(0, 63, 0), 40);
            Due.well("itself", x, x.parts(0, 63, 63), 0);
            x.want(0, 63, 39, 1);
            Due.well("alike in one", x, x.parts(0, 0, 63), 39);
        }
    }

    private static void trace() {
        Due.by("Whose body an act of a KEY is: 0 of what all KEYS, or all with COUPLETS, are, 1 BRANCHING's, 2 REGIONAL's, 3 TABLE's, "
                + "4 WEIGHTED's, 5 JOINED's, 6 of an interface.");
        int[][] bodies = {{1, 6, 0, 0}, {2, 6, 0, 0}, {3, 3, 0, 0}, {3, 4, 4, 0}, {5, 6, 6, 5}};
        HerbKey x = new HerbKey();
        for (int kind = 0; kind < 5; kind++) {
            x.key(kind);
            for (int act = 0; act < 4; act++) Due.well("kind " + kind + ", act " + act, x, x.trace(kind, act), bodies[kind][act]);
            Due.refused("act -1", x, x.trace(kind, -1), 3);
            Due.refused("act 4", x, x.trace(kind, 4), 3);
        }
        Due.refused("no key, no act", x, x.trace(5, 4), 1);
    }

    // ---- the whole house

    private static void undoAll() {
        Due.by("answers how many can be taken back still. 7: none.");
        HerbKey x = new HerbKey();
        Due.refused("none at first", x, x.undo(), 7);
        x.sheet();
        Due.well("one", x, x.undo(), 0);
        Due.refused("none", x, x.undo(), 7);
        Due.refused("none still", x, x.undo(), 7);
        Due.is("changes", x.changes(), 0);
        Due.well("the number is free again", x, x.sheet(), 0);
        x.key(4);
        Due.well("one left", x, x.undo(), 1);
        Due.well("none left", x, x.undo(), 0);
        Due.is("all as at first", x.digest(), 7 * 31 * 31);
        Due.by("All is as ahead of the latest CHANGE that was not taken back");
        x.sheet();
        x.row(0, 0, 1);
        x.state(0, 0, 1);
        x.undo();
        x.state(0, 0, 2);
        x.undo();
        Due.is("ahead of both", x.read(0, 0, 0), 0);
        x.undo();
        Due.refused("ahead of the row", x, x.read(0, 0, 0), 3);
    }

    /** What was made first, or put where nothing was, is gone behind undo(), and can be made again. */
    private static void undoOfTheFirst() {
        Due.by("All is as ahead of the latest CHANGE that was not taken back");
        for (int kind = 0; kind < 4; kind++) {
            HerbKey x = house(1, kind, 0);
            Due.well("couplet 0", x, x.couplet(0, 0, 0, 1, 0), 0);
            x.undo();
            Due.refused("no couplet", x, x.ask(0, 0, 0), 3);
            Due.well("couplet 0 again", x, x.couplet(0, 0, 0, 1, 0), 0);
            Due.well("couplet 1", x, x.couplet(0, 0, 0, 0, 0), 1);
            x.undo();
            Due.well("couplet 0 stays", x, x.ask(0, 0, 0), 1);
            Due.refused("no couplet 1", x, x.ask(0, 0, 1), 3);
            if (kind < 2) x.lead(0, 0, true, 100); else x.want(0, 0, 0, 1);
            Due.is("name 0", x.sure(0, 0), 0);
            x.undo();
            Due.is("no name", x.sure(0, 0), BAD);
            x.undo();
            x.undo();
            Due.refused("no key", x, x.sure(0, 0), 1);
            Due.well("key 0 again", x, x.key(kind), 0);
        }
        HerbKey x = house(0, 4, 0);
        x.key(0);
        x.couplet(1, 0, 0, 0, 0);
        x.lead(1, 0, true, 105);
        x.join(0, 1, 1);
        Due.is("joined", x.names(0, 0), 1);
        x.undo();
        Due.is("of none", x.names(0, 0), 0);
    }

    private static void undoKeepsRowAndProof() {
        Due.by("(the row of names() and the PROOF stay)");
        HerbKey x = tree(0);
        x.names(0, 0);
        x.pick(1);
        x.forge(0, 99);
        for (int i = x.changes(); i > 0; i--) {
            x.undo();
            Due.is("name", x.name(2), 11);
            Due.is("unknowns", x.unknowns(2), 2);
            Due.is("source", x.proof(-1), 0);
            Due.is("the name", x.proof(-3), 10);
            Due.is("entry", x.proof(0), 99);
        }
        Due.refused("the key is none", x, x.pick(0), 7);
        Due.well("not right", x, x.check(), 0);
    }

    private static void changesAsBefore() {
        Due.by("each time that they are not refused (also if all is as before).");
        HerbKey x = new HerbKey();
        x.sheet();
        for (int kind = 0; kind < 3; kind++) x.row(0, kind, 1);
        for (int kind = 0; kind < 5; kind++) x.key(kind);
        for (int k = 0; k < 4; k++) x.couplet(k, 0, 0, 1, 0);
        x.join(4, 0, 1);
        int before = x.changes();
        Due.is("changes", before, 14);
        long digest = x.digest();
        int[] same = {x.row(0, 0, 1), x.state(0, 0, 0), x.measure(0, 0, 0, 0), x.code(0, 0, 0), x.merge(0, 0), x.lead(0, 0, true, -1),
            x.join(4, 0, 1), x.region(1, -1L), x.want(2, 0, 0, 2), x.weigh(3, 0, 1), x.slack(3, 0), x.learn(2, 9, 63)};
        Due.is("all is as before", x.digest(), digest);
        Due.is("but each is a change", x.changes(), before + same.length);
        for (int i = same.length - 1; i >= 0; i--) {
            Due.well("undo", x, x.undo(), before + i);
            Due.is("all is as before", x.digest(), digest);
        }
    }

    private static void statusNeverRefused() {
        Due.by("See 5. Never refused itself.");
        HerbKey x = new HerbKey();
        Due.is("at first", x.status(), 0);
        Due.is("of nothing", x.drop(0), BAD);
        for (int i = 0; i < 3; i++) Due.is("stays", x.status(), 1);
        Due.by("How many CHANGES can be taken back. Never refused.");
        Due.is("none", x.changes(), 0);
        Due.is("stays", x.status(), 1);
        x.sheet();
        Due.is("not refused", x.status(), 0);
        Due.is("one", x.changes(), 1);
        x.undo();
        Due.is("none", x.changes(), 0);
        x.undo();
        Due.is("none still", x.changes(), 0);
        Due.is("of undo()", x.status(), 7);
    }

    private static void changesOfEach() {
        Due.by("CHANGES are sheet, lose, row, state, measure, lack, code, merge, key, drop, couplet, lead, join, region, want, weigh, "
                + "slack, learn");
        HerbKey x = new HerbKey();
        int n = 0;
        x.sheet(); Due.is("sheet", x.changes(), ++n);
        x.sheet(); Due.is("sheet", x.changes(), ++n);
        x.row(0, 0, 2); Due.is("row", x.changes(), ++n);
        x.row(0, 1, 2); Due.is("row", x.changes(), ++n);
        x.row(0, 2, 2); Due.is("row", x.changes(), ++n);
        x.state(0, 0, 1); Due.is("state", x.changes(), ++n);
        x.measure(0, 0, 1, 1); Due.is("measure", x.changes(), ++n);
        x.lack(0, 1, 2); Due.is("lack", x.changes(), ++n);
        x.code(0, 0, 1); Due.is("code", x.changes(), ++n);
        x.merge(1, 0); Due.is("merge", x.changes(), ++n);
        for (int kind = 0; kind < 5; kind++) { x.key(kind); Due.is("key", x.changes(), ++n); }
        for (int k = 0; k < 4; k++) { x.couplet(k, 0, 0, 1, 0); Due.is("couplet", x.changes(), ++n); }
        x.lead(0, 0, true, 107); Due.is("lead", x.changes(), ++n);
        x.join(4, 0, 2); Due.is("join", x.changes(), ++n);
        x.region(1, 5); Due.is("region", x.changes(), ++n);
        x.want(2, 7, 0, 1); Due.is("want", x.changes(), ++n);
        x.weigh(3, 0, 2); Due.is("weigh", x.changes(), ++n);
        x.slack(3, 2); Due.is("slack", x.changes(), ++n);
        x.learn(3, 0, 7); Due.is("learn", x.changes(), ++n);
        x.names(0, 0); x.name(0); x.unknowns(0); x.pick(0); x.proof(0); x.forge(0, 1); x.check(); x.sure(0, 0); x.score(3, 0, 7);
        x.next(0, 9); x.compare(0, 0, 1); x.unreached(0); x.depth(0); x.parted(0, 7, 8); x.twins(0); x.parts(2, 7, 8); x.trace(0, 0);
        x.ask(0, 0, 0); x.cause(0, 0, 0); x.read(0, 0, 0); x.changes(); x.status(); x.digest();
        Due.is("no others", x.changes(), n);
        x.lose(1); Due.is("lose", x.changes(), ++n);
        x.drop(4); Due.is("drop", x.changes(), ++n);
        x.undo(); Due.is("undo", x.changes(), --n);
        x.drop(9); x.lose(9); x.key(9); x.row(0, 9, 9); x.couplet(0, 9, 0, 0, 0); x.slack(3, 100);
        Due.is("not what is refused", x.changes(), n);
    }

    /** The document's sum in whole numbers that do not wrap, cut to a long at the end. */
    private static final class Fold {
        private BigInteger sum = BigInteger.valueOf(7);
        long d = 7;
        Fold add(long... xs) {
            for (long v : xs) sum = sum.multiply(BigInteger.valueOf(31)).add(BigInteger.valueOf(v));
            d = sum.longValue();
            return this;
        }
    }

    private static void digestOfNothing() {
        Due.by("d, of 7, goes over x: d * 31 + x, wrapping: how many SHEETS were made; of each: 0 if it is none, else 1, and of each ROW, "
                + "STATES first: -1 if it is missing, else its length, and read() of each PLACE;");
        HerbKey x = new HerbKey();
        Due.is("nothing", x.digest(), new Fold().add(0, 0).d);
        x.sheet();
        Due.is("a sheet without rows", x.digest(), new Fold().add(1, 1, -1, -1, -1, 0).d);
        x.row(0, 0, 0);
        Due.is("a row of 0 places", x.digest(), new Fold().add(1, 1, 0, -1, -1, 0).d);
        x.row(0, 1, 1);
        x.row(0, 2, 2);
        x.code(0, 1, 65535);
        x.lack(0, 0, 1);
        Due.is("an endless one", x.digest(), new Fold().add(1, 1, 0, 1, Long.MAX_VALUE, 2, 0, 65535, 0).d);
        x.lack(0, 0, 2);
        Due.is("an endless one below", x.digest(), new Fold().add(1, 1, 0, 1, Long.MIN_VALUE, 2, 0, 65535, 0).d);
        x.lack(0, 0, 0);
        Due.is("none", x.digest(), new Fold().add(1, 1, 0, 1, 0, 2, 0, 65535, 0).d);
        x.lose(0);
        Due.is("a lost one", x.digest(), new Fold().add(1, 0, 0).d);
        x.key(0);
        x.key(4);
        Due.is("keys", x.digest(), new Fold().add(1, 0, 2, 0, 0, 4, 0, -1, -1).d);
        x.drop(0);
        Due.is("a dropped one", x.digest(), new Fold().add(1, 0, 2, -1, 4, 0, -1, -1).d);
        x.changes();
        x.digest();
        Due.is("the same again", x.digest(), new Fold().add(1, 0, 2, -1, 4, 0, -1, -1).d);
    }

    /** A great house of all kinds: its sum wraps some thousand times. */
    private static void digestWraps() {
        Due.by("how many KEYS were made; of each: -1 if it is none, else its KIND, and its COUPLETS: how many, then of each ask, p, q, r, and "
                + "LEADS for NO and YES (BRANCHING), WEIGHT (WEIGHTED); the REGION (REGIONAL); of each NAME, and in it of each COUPLET, its "
                + "WANT (TABLE); SLACK (WEIGHTED); JOINED: 0 for COUPLETS, and its two (-1 at first). Answers d. Never refused.");
        HerbKey x = new HerbKey();
        List<Long> xs = new ArrayList<>();
        long[][] rows = {{-128, 127, 0}, {Long.MAX_VALUE, 8, -8, Long.MIN_VALUE}, {65535}};
        xs.add(1L);
        xs.add(1L);
        x.sheet();
        for (int kind = 0; kind < 3; kind++) {
            x.row(0, kind, rows[kind].length);
            xs.add((long) rows[kind].length);
            for (long v : rows[kind]) xs.add(v);
        }
        x.state(0, 0, -128);
        x.state(0, 1, 127);
        x.measure(0, 0, 16777216, 100);
        x.measure(0, 1, 1, 0);
        x.measure(0, 2, -17, -4);
        x.lack(0, 3, 2);
        x.code(0, 0, 65535);
        xs.add(5L);
        for (int kind = 0; kind < 5; kind++) {
            x.key(kind);
            xs.add((long) kind);
            xs.add(kind == 4 ? 0L : 2L);
            for (int c = 0; c < 2 && kind < 4; c++) {
                x.couplet(kind, 3, 60, c == 0 ? MIN : MAX, 100);
                long[] asked = {3, 60, c == 0 ? MIN : MAX, 100};
                for (long v : asked) xs.add(v);
                if (kind < 2) x.lead(kind, c, c == 0, 163);
                if (kind < 2) { xs.add(c == 0 ? -1L : 163L); xs.add(c == 0 ? 163L : -1L); }
                if (kind == 3) { x.weigh(kind, c, 9 * c); xs.add(9L * c); }
            }
            if (kind == 1) { x.region(kind, Long.MIN_VALUE); xs.add(Long.MIN_VALUE); }
            for (int n = 0; n < 64 && (kind == 2 || kind == 3); n++) {
                for (int c = 0; c < 2; c++) {
                    x.want(kind, n, c, (n + c + kind) % 3);
                    xs.add((n + c + kind) % 3L);
                }
            }
            if (kind == 3) { x.slack(kind, 99); xs.add(99L); }
            if (kind == 4) { x.join(4, 3, 0); xs.add(3L); xs.add(0L); }
        }
        long[] all = new long[xs.size()];
        for (int i = 0; i < all.length; i++) all[i] = xs.get(i);
        Due.is("the whole house", x.digest(), new Fold().add(all).d);
        x.lose(9);
        x.digest();
        Due.is("digest() leaves the status", x.status(), 2);
    }
}
