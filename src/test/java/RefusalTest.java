import java.util.ArrayList;
import java.util.List;

/**
 * Every call with every pair, triple .. of fine and wrong arguments, the edges and one beyond them:
 * the first reason in the document's order is told, and nothing but the status is changed; what is not
 * refused is one change more or none, and undo() takes it back.
 */
public final class RefusalTest {
    private static final int BAD = Due.BAD;
    private static final int MIN = Due.MIN;
    private static final int MAX = Due.MAX;

    /** The document's own order, and that of pick() and next(). */
    private static final int[] ORDER = {7, 1, 2, 4, 3, 5, 8, 6};
    private static final int[] PICK_ORDER = {3, 7};
    private static final int[] NEXT_ORDER = {1, 4, 7};

    /** What a call does to the house if it is not refused. */
    private enum Effect { CHANGE, NOTHING, ROW_OR_PROOF }

    private interface Call { long on(HerbKey x, int[] a); }

    private interface Answer { long to(int[] a); }

    private interface House { HerbKey make(); }

    /** An argument's fine values, and its wrong ones, each with why. */
    private record Slot(int[] fine, int[][] wrong) { }

    private static int calls = 0;

    public static void main(String[] args) {
        sheets();
        keys();
        couplets();
        leadsAndJoins();
        tables();
        asking();
        rowAndProof();
        structure();
        fullHouse();
        emptyHouse();
        everyReason();
        Due.end(calls + " calls are refused or not, as due");
    }

    // ---- the harness

    private static int[] fine(int... values) {
        return values;
    }

    private static int[][] wrong(int... valuesAndWhy) {
        int n = valuesAndWhy.length / 2;
        int[][] out = new int[n][];
        for (int i = 0; i < n; i++) out[i] = new int[] {valuesAndWhy[2 * i], valuesAndWhy[2 * i + 1]};
        return out;
    }

    private static Slot slot(int[] fine, int[]... wrong) {
        return new Slot(fine, wrong);
    }

    /** An index or number from a to b, and what lies beyond. */
    private static Slot range(int a, int b, int why) {
        return new Slot(fine(a, b), wrong(a - 1, why, b + 1, why, MIN, why, MAX, why));
    }

    private static void all(String name, House house, Effect effect, Call call, Answer due, Slot... slots) {
        all(name, ORDER, house, effect, call, due, slots);
    }

    private static void all(String name, int[] order, House house, Effect effect, Call call, Answer due, Slot... slots) {
        Due.by(sentence(name));
        List<int[]> done = new ArrayList<>();
        done.add(new int[0]);
        List<List<Integer>> whys = new ArrayList<>();
        whys.add(List.of());
        for (Slot slot : slots) {
            List<int[]> more = new ArrayList<>();
            List<List<Integer>> moreWhys = new ArrayList<>();
            for (int i = 0; i < done.size(); i++) {
                for (int v : slot.fine) {
                    more.add(with(done.get(i), v));
                    moreWhys.add(whys.get(i));
                }
                for (int[] w : slot.wrong) {
                    more.add(with(done.get(i), w[0]));
                    List<Integer> reasons = new ArrayList<>(whys.get(i));
                    reasons.add(w[1]);
                    moreWhys.add(reasons);
                }
            }
            done = more;
            whys = moreWhys;
        }
        for (int i = 0; i < done.size(); i++) {
            one(name, first(order, whys.get(i)), house, effect, call, due, done.get(i));
        }
    }

    /** The sentence that tells why a call is refused. */
    private static String sentence(String name) {
        switch (name.split(" ")[0]) {
            case "sheet": return "A new SHEET; answers its number. 8: 40 were made.";
            case "lose": return "A SHEET is none from now on; answers how many there are. 2.";
            case "row": return "answers n. 2, 3, 5: n is not -1 to 40.";
            case "state": return "A STATE, answered. 2, 3, 5.";
            case "measure": return "answers n. 2, 3; 5: n is not -16777216 to 16777216, or e not -20 to 100.";
            case "lack": return "answers how. 2, 3; 5: no such how.";
            case "code": return "A CODE, answered. 2, 3, 5.";
            case "read": return "the greatest or least long for ENDLESS ones. 2, 3.";
            case "merge": return "Answers how many ROWS and MEASURES came (0, too, if a is b). 2.";
            case "key": return "answers its number. 5: no such KIND; 8: 40 were made.";
            case "drop": return "A KEY is none from now on; answers how many there are. 1.";
            case "couplet": return "One more COUPLET; answers its number. 1; 4: JOINED; 5: no such ASK, or p, q, r not as told; "
                    + "8: it has 40; 6.";
            case "lead": return "answers to. 1, 4; 3: no such COUPLET, or to is none of these; 6: a COUPLET would come to itself by LEADS.";
            case "join": return "(those that are there, each once). 1: one of the three; 4, 6.";
            case "region": return "answers how many NAMES are in it. 1; 4: not REGIONAL.";
            case "want": return "0 NO, 1 YES, 2 ANY; answers it. 1, 4; 3; 5.";
            case "weigh": return "The WEIGHT of a WEIGHTED KEY's COUPLET, answered. 1, 4; 3; 5.";
            case "slack": return "SLACK of a WEIGHTED KEY, answered. 1, 4; 5.";
            case "learn": return "answers how many are not ANY. 1; 4; 3.";
            case "score": return "The SCORE. 1; 4: not WEIGHTED; 3. (BAD may be one.)";
            case "parts": return "one of two NAMES wants NO and the other YES. 1; 4; 3.";
            case "ask": return "0 NO, 1 YES, 2 UNKNOWN. 1; 3 (JOINED, too).";
            case "cause": return "The CAUSE of that ANSWER; 0 if it is not UNKNOWN. 1; 3.";
            case "names": return "NAMES that a KEY gives for a SHEET: how many.";
            case "sure": return "with 0 UNKNOWNS; else BAD, and 0 is STATUS. 1.";
            case "compare": return "are NO for one of two SHEETS and YES for the other. 1; 4: JOINED.";
            case "next": return "1; 4: JOINED; 7: none is UNKNOWN. (Behind 1 and 4, here.)";
            case "name": return "The i-th NAME of that row (from 0); 3: there is none (none at first).";
            case "unknowns": return "Its UNKNOWNS. 3.";
            case "pick": return "7: that KEY is none now, or does not give the NAME any more; 3: there is no NAME i. (3 ahead of 7, here.)";
            case "proof": return "7: no PROOF was taken; 3.";
            case "forge": return "An ENTRY becomes v, answered. 7; 3: no ENTRY j (from 0); 5: v is not 0 to 255.";
            case "check": return "1 if the PROOF is RIGHT, otherwise 0. 7: no PROOF was taken.";
            case "unreached": return "(COUPLET 0 is come to). 1; 4.";
            case "depth": return "it being one (0 without it). 1; 4.";
            case "parted": return "Whether two NAMES are PARTED by a KEY: 1 or 0. 1; 4: JOINED; 3.";
            case "twins": return "How many pairs of NAMES that a KEY HAS are not PARTED. 1; 4: JOINED.";
            case "trace": return "3 the SOURCE (JOINED its own; others that of all KEYS). 1; 3: no such act.";
            case "changes": return "How many CHANGES can be taken back. Never refused.";
            case "digest": return "Answers d. Never refused.";
            case "undo": return "answers how many can be taken back still. 7: none.";
            default: return "The first of these in the order 7, 1, 2, 4, 3, 5, 8, 6.";
        }
    }

    private static int[] with(int[] a, int v) {
        int[] out = java.util.Arrays.copyOf(a, a.length + 1);
        out[a.length] = v;
        return out;
    }

    private static int first(int[] order, List<Integer> reasons) {
        for (int why : order) if (reasons.contains(why)) return why;
        return 0;
    }

    private static void one(String name, int why, House house, Effect effect, Call call, Answer due, int[] a) {
        calls++;
        String what = name + java.util.Arrays.toString(a);
        HerbKey x = house.make();
        HerbKey still = house.make();
        long got = call.on(x, a);
        Due.is(what + ", status", x.status(), why);
        if (why != 0) {
            Due.is(what, got, BAD);
            Due.same(what + " refused", x, still);
            return;
        }
        if (due != null) Due.is(what, got, due.to(a));
        Due.is(what + ", changes", x.changes(), still.changes() + (effect == Effect.CHANGE ? 1 : 0));
        if (effect == Effect.CHANGE) Due.is(what + ", undo", x.undo(), still.changes());
        if (effect == Effect.ROW_OR_PROOF) Due.is(what + ", digest", x.digest(), still.digest());
        if (effect != Effect.ROW_OR_PROOF) Due.same(what + (effect == Effect.CHANGE ? " and undo()" : ""), x, still);
    }

    // ---- the houses

    /**
     * Sheets: 0 with four places of each kind, 1 without rows, 2 lost. Keys of three couplets: 0
     * branching, 1 regional, 2 table, 3 weighted (its last one asks key 6); joined: 4 (of 0 and 2) and 6
     * (of none); 5 was dropped. The row of names() is that of key 0 for sheet 1, the proof its name 1.
     */
    private static HerbKey house() {
        HerbKey x = new HerbKey();
        for (int i = 0; i < 3; i++) x.sheet();
        for (int kind = 0; kind < 3; kind++) x.row(0, kind, 4);
        x.state(0, 0, 1);
        x.measure(0, 1, 3, 1);
        x.lack(0, 3, 0);
        x.code(0, 2, 9);
        x.lose(2);
        int[] kinds = {0, 1, 2, 3, 4, 2, 4};
        for (int kind : kinds) x.key(kind);
        for (int k = 0; k < 4; k++) {
            x.couplet(k, 0, 0, 1, 0);
            x.couplet(k, 2, 1, 7, 0);
            if (k < 3) x.couplet(k, 1, 2, 8, 0); else x.couplet(k, 7, 6, 8, 0);
        }
        for (int k = 0; k < 2; k++) {
            x.lead(k, 0, true, 1);
            x.lead(k, 0, false, 2);
            x.lead(k, 1, true, 110);
            x.lead(k, 1, false, 111);
            x.lead(k, 2, true, 112);
            x.lead(k, 2, false, 163);
        }
        for (int k = 2; k < 4; k++) {
            x.want(k, 0, 0, 1);
            x.want(k, 63, 1, 0);
            x.want(k, 5, 2, 1);
        }
        x.region(1, 1L << 10 | 1L << 63);
        x.weigh(3, 1, 4);
        x.slack(3, 2);
        x.join(4, 0, 2);
        x.drop(5);
        x.names(0, 1);
        x.pick(1);
        return x;
    }

    private static final int[][] NO_SUCH_KEY = wrong(-1, 1, 5, 1, 7, 1, 40, 1, MIN, 1, MAX, 1);
    private static final int[][] NO_SUCH_SHEET = wrong(-1, 2, 2, 2, 3, 2, 40, 2, MIN, 2, MAX, 2);
    /** Where a number that is no sheet's may be given, too. */
    private static final Slot ANY_SHEET = slot(fine(0, 1, 2, 3, -1, 39, 40, MIN, MAX));
    private static final Slot NAME = range(0, 63, 3);
    private static final Slot COUPLET = range(0, 2, 3);

    private static int[][] and(int[][] these, int... valuesAndWhy) {
        List<int[]> out = new ArrayList<>(List.of(these));
        out.addAll(List.of(wrong(valuesAndWhy)));
        return out.toArray(new int[0][]);
    }

    // ---- the calls

    private static void sheets() {
        House h = RefusalTest::house;
        Slot sheet = slot(fine(0, 1), NO_SUCH_SHEET);
        all("sheet", h, Effect.CHANGE, (x, a) -> x.sheet(), a -> 3);
        all("lose", h, Effect.CHANGE, (x, a) -> x.lose(a[0]), a -> 1, sheet);
        all("row", h, Effect.CHANGE, (x, a) -> x.row(a[0], a[1], a[2]), a -> a[2], sheet,
                slot(fine(0, 1, 2), wrong(-1, 3, 3, 3, MIN, 3, MAX, 3)),
                slot(fine(-1, 0, 1, 39, 40), wrong(-2, 5, 41, 5, MIN, 5, MAX, 5)));
        // Sheet 1 has no rows.
        Slot seen = slot(fine(0), and(NO_SUCH_SHEET, 1, 3));
        Slot place = range(0, 3, 3);
        all("state", h, Effect.CHANGE, (x, a) -> x.state(a[0], a[1], a[2]), a -> a[2], seen, place,
                slot(fine(-128, -127, -1, 0, 1, 126, 127), wrong(-129, 5, 128, 5, MIN, 5, MAX, 5)));
        all("measure", h, Effect.CHANGE, (x, a) -> x.measure(a[0], a[1], a[2], a[3]), a -> a[2], seen, place,
                slot(fine(-16777216, -1, 0, 16777216), wrong(-16777217, 5, 16777217, 5, MIN, 5, MAX, 5)),
                slot(fine(-20, 0, 100), wrong(-21, 5, 101, 5)));
        all("lack", h, Effect.CHANGE, (x, a) -> x.lack(a[0], a[1], a[2]), a -> a[2], seen, place,
                slot(fine(0, 1, 2), wrong(-1, 5, 3, 5, MIN, 5, MAX, 5)));
        all("code", h, Effect.CHANGE, (x, a) -> x.code(a[0], a[1], a[2]), a -> a[2], seen, place,
                slot(fine(0, 1, 65534, 65535), wrong(-1, 5, 65536, 5, MIN, 5, MAX, 5)));
        long[][] held = {{1, 0, 0, 0}, {0, 48, 0, 0}, {0, 0, 9, 0}};
        all("read", h, Effect.NOTHING, (x, a) -> x.read(a[0], a[1], a[2]), a -> held[a[1]][a[2]], seen,
                slot(fine(0, 1, 2), wrong(-1, 3, 3, 3, MIN, 3, MAX, 3)),
                slot(fine(0, 1, 2, 3), wrong(-1, 3, 4, 3, MIN, 3, MAX, 3)));
        all("merge", h, Effect.CHANGE, (x, a) -> x.merge(a[0], a[1]), a -> a[0] == 1 && a[1] == 0 ? 3 : 0, sheet, sheet);
    }

    private static void keys() {
        House h = RefusalTest::house;
        all("key", h, Effect.CHANGE, (x, a) -> x.key(a[0]), a -> 7,
                slot(fine(0, 1, 2, 3, 4), wrong(-1, 5, 5, 5, MIN, 5, MAX, 5)));
        all("drop", h, Effect.CHANGE, (x, a) -> x.drop(a[0]), a -> 5, slot(fine(0, 1, 2, 3, 4, 6), NO_SUCH_KEY));
    }

    /** Key 7 is full: its 40 couplets ask key 3. */
    private static HerbKey withFullKey() {
        HerbKey x = house();
        x.key(2);
        for (int c = 0; c < 40; c++) x.couplet(7, 7, 3, c, 0);
        return x;
    }

    private static void couplets() {
        House h = RefusalTest::withFullKey;
        Call call = (x, a) -> x.couplet(a[0], a[1], a[2], a[3], a[4]);
        int[][] none = wrong(-1, 1, 5, 1, 8, 1, MAX, 1);
        Slot keys = slot(fine(0, 1, 2, 3), and(none, 4, 4, 6, 4, 7, 8));
        all("couplet", h, Effect.CHANGE, call, a -> 3, keys,
                slot(fine(0), wrong(-1, 5, 9, 5, MIN, 5, MAX, 5)),
                slot(fine(-1, 60), wrong(-2, 5, 61, 5)),
                slot(fine(-128, 127), wrong(-129, 5, 128, 5)),
                slot(fine(0), wrong(-1, 5, 1, 5)));
        for (int ask = 7; ask < 9; ask++) {
            int it = ask;
            Slot asks = slot(fine(it));
            Slot r = it == 7 ? slot(fine(0), wrong(-1, 5, 1, 5)) : slot(fine(-400, 400), wrong(-401, 5, 401, 5));
            // Key 7 asks key 3, and key 4 asks key 0.
            all("couplet", h, Effect.CHANGE, call, a -> 3, slot(fine(3), and(none, 4, 4, 7, 8)), asks,
                    slot(fine(-1, 0, 6, 60), wrong(-2, 5, 61, 5, 3, 6, 7, 6)), NAME5, r);
            all("couplet", h, Effect.CHANGE, call, a -> 3, slot(fine(0), and(none, 6, 4, 7, 8)), asks,
                    slot(fine(-1, 1, 2, 3, 5, 6, 7, 60), wrong(-2, 5, 61, 5, 0, 6, 4, 6)), NAME5, r);
        }
    }

    /** A name as a couplet's q. */
    private static final Slot NAME5 = slot(new int[] {0, 63}, wrong(-1, 5, 64, 5));

    private static void leadsAndJoins() {
        House h = RefusalTest::house;
        Slot branching = slot(fine(0, 1), and(NO_SUCH_KEY, 2, 4, 3, 4, 4, 4));
        Slot yes = slot(fine(0, 1));
        all("lead", h, Effect.CHANGE, (x, a) -> x.lead(a[0], a[1], a[2] == 1, a[3]), a -> a[3], branching,
                slot(fine(1, 2), wrong(-1, 3, 3, 3, MIN, 3, MAX, 3)), yes,
                slot(fine(-1, 100, 163), wrong(-2, 3, 3, 3, 99, 3, 164, 3, MIN, 3, MAX, 3, 0, 6)));
        all("lead of 0", h, Effect.CHANGE, (x, a) -> x.lead(a[0], a[1], a[2] == 1, a[3]), a -> a[3], branching,
                slot(fine(0)), yes, slot(fine(-1, 1, 2, 100, 163), wrong(-2, 3, 3, 3, 99, 3, 164, 3, 0, 6)));
        all("lead to itself", h, Effect.CHANGE, (x, a) -> x.lead(a[0], 1, a[1] == 1, a[2]), a -> a[2], branching, yes,
                slot(fine(2), wrong(1, 6, 0, 6)));
        Call join = (x, a) -> x.join(a[0], a[1], a[2]);
        // Key 3 asks key 6, and key 4 asks 0 and 2.
        Slot part = slot(fine(0, 1, 2, 3, 6), and(NO_SUCH_KEY, 4, 6));
        all("join", h, Effect.CHANGE, join, a -> asked(a[1], a[2]), slot(fine(4), and(NO_SUCH_KEY, 0, 4, 2, 4, 3, 4)),
                part, part);
        Slot other = slot(fine(0, 1, 2), and(NO_SUCH_KEY, 6, 6, 3, 6));
        all("join", h, Effect.CHANGE, join, a -> a[1] == a[2] ? 1 : 2, slot(fine(6), and(NO_SUCH_KEY, 1, 4)), other, other);
        all("region", h, Effect.CHANGE, (x, a) -> x.region(a[0], a[1]), a -> Long.bitCount(a[1]),
                slot(fine(1), and(NO_SUCH_KEY, 0, 4, 2, 4, 3, 4, 4, 4)), slot(fine(0, 1, -1, MIN, MAX)));
    }

    /** How many keys a joined one of these two asks. */
    private static int asked(int first, int second) {
        int n = first == second ? 1 : 2;
        boolean three = first == 3 || second == 3;
        boolean six = first == 6 || second == 6;
        return n + (three && !six ? 1 : 0);
    }

    private static void tables() {
        House h = RefusalTest::house;
        Slot table = slot(fine(2, 3), and(NO_SUCH_KEY, 0, 4, 1, 4, 4, 4));
        Slot weighted = slot(fine(3), and(NO_SUCH_KEY, 0, 4, 1, 4, 2, 4, 4, 4));
        all("want", h, Effect.CHANGE, (x, a) -> x.want(a[0], a[1], a[2], a[3]), a -> a[3], table, NAME, COUPLET,
                slot(fine(0, 1, 2), wrong(-1, 5, 3, 5)));
        all("weigh", h, Effect.CHANGE, (x, a) -> x.weigh(a[0], a[1], a[2]), a -> a[2], weighted, COUPLET,
                slot(fine(0, 1, 8, 9), wrong(-1, 5, 10, 5, MIN, 5, MAX, 5)));
        all("slack", h, Effect.CHANGE, (x, a) -> x.slack(a[0], a[1]), a -> a[1], weighted,
                slot(fine(0, 1, 98, 99), wrong(-1, 5, 100, 5, MIN, 5, MAX, 5)));
        // Sheet 1 has no rows, but of key 6, which gives none, key 3 knows even so.
        all("learn", h, Effect.CHANGE, (x, a) -> x.learn(a[0], a[1], a[2]),
                a -> a[1] == 0 ? 3 : a[1] == 1 && a[0] == 3 ? 1 : 0, table, ANY_SHEET, NAME);
        all("score", h, Effect.NOTHING, (x, a) -> x.score(a[0], a[1], a[2]),
                a -> a[1] != 0 ? 0 : a[2] == 0 ? 1 : -4, weighted, ANY_SHEET, NAME);
        all("parts", h, Effect.NOTHING, (x, a) -> x.parts(a[0], a[1], a[2]), a -> 0, table, NAME, NAME);
    }

    private static void asking() {
        House h = RefusalTest::house;
        Slot any = slot(fine(0, 1, 2, 3, 4, 6), NO_SUCH_KEY);
        Slot coupled = slot(fine(0, 1, 2, 3), and(NO_SUCH_KEY, 4, 4, 6, 4));
        // A joined one has no such couplet.
        Slot asked = slot(fine(0, 1, 2, 3), and(NO_SUCH_KEY, 4, 3, 6, 3));
        all("ask", h, Effect.NOTHING, (x, a) -> x.ask(a[0], a[1], a[2]),
                a -> a[1] == 0 ? a[2] == 0 ? 1 : 0 : a[1] == 1 && a[0] == 3 && a[2] == 2 ? 0 : 2, asked, ANY_SHEET, COUPLET);
        all("cause", h, Effect.NOTHING, (x, a) -> x.cause(a[0], a[1], a[2]),
                a -> a[1] == 0 ? 0 : a[1] != 1 ? 1 : a[0] == 3 && a[2] == 2 ? 0 : 2, asked, ANY_SHEET, COUPLET);
        // Key 3 lets name 5 by its slack; name 63 is one of key 0 and of key 2.
        int[] ofSeen = {1, 1, 1, 2, 2, 0, 0};
        int[] ofNone = {4, 2, 3, 3, 6, 0, 0};
        all("names", h, Effect.ROW_OR_PROOF, (x, a) -> x.names(a[0], a[1]),
                a -> a[1] == 0 ? ofSeen[a[0]] : ofNone[a[0]], any, ANY_SHEET);
        int[] sureOf = {10, 10, 0, BAD, BAD, 0, BAD};
        all("sure", h, Effect.NOTHING, (x, a) -> x.sure(a[0], a[1]), a -> a[1] == 0 ? sureOf[a[0]] : BAD, any, ANY_SHEET);
        all("compare", h, Effect.NOTHING, (x, a) -> x.compare(a[0], a[1], a[2]), a -> 0, coupled, ANY_SHEET, ANY_SHEET);
        // For sheet 0 all is answered.
        all("next", NEXT_ORDER, h, Effect.NOTHING, (x, a) -> x.next(a[0], a[1]), a -> 0, coupled,
                slot(fine(1, 2, -1, 40, MIN, MAX), wrong(0, 7)));
    }

    private static void rowAndProof() {
        House h = RefusalTest::house;
        int[] shown = {10, 11, 12, 63};
        all("name", h, Effect.NOTHING, (x, a) -> x.name(a[0]), a -> shown[a[0]],
                slot(fine(0, 1, 2, 3), wrong(-1, 3, 4, 3, 63, 3, 64, 3, MIN, 3, MAX, 3)));
        all("unknowns", h, Effect.NOTHING, (x, a) -> x.unknowns(a[0]), a -> 2,
                slot(fine(0, 1, 2, 3), wrong(-1, 3, 4, 3, 63, 3, 64, 3, MIN, 3, MAX, 3)));
        all("pick", PICK_ORDER, h, Effect.ROW_OR_PROOF, (x, a) -> x.pick(a[0]), a -> 2, range(0, 3, 3));
        House dropped = () -> {
            HerbKey x = house();
            x.drop(0);
            return x;
        };
        all("pick of a dropped key", PICK_ORDER, dropped, Effect.ROW_OR_PROOF, (x, a) -> x.pick(a[0]), null,
                slot(fine(), wrong(0, 7, 3, 7, -1, 3, 4, 3, MIN, 3, MAX, 3)));
        // Name 11, which is the second one of the row, is not led to any more.
        House elsewhere = () -> {
            HerbKey x = house();
            x.lead(0, 1, false, 110);
            return x;
        };
        all("pick of what is not given", PICK_ORDER, elsewhere, Effect.ROW_OR_PROOF, (x, a) -> x.pick(a[0]), a -> 2,
                slot(fine(0, 2, 3), wrong(1, 7, -1, 3, 4, 3)));
        int[] held = {11, 1, 0, 3, 6};
        all("proof", h, Effect.NOTHING, (x, a) -> x.proof(a[0]), a -> held[a[0] + 3],
                slot(fine(-3, -2, -1, 0, 1), wrong(-4, 3, 2, 3, MIN, 3, MAX, 3)));
        all("forge", h, Effect.ROW_OR_PROOF, (x, a) -> x.forge(a[0], a[1]), a -> a[1], range(0, 1, 3),
                slot(fine(0, 1, 254, 255), wrong(-1, 5, 256, 5, MIN, 5, MAX, 5)));
        all("check", h, Effect.NOTHING, (x, a) -> x.check(), a -> 1);
    }

    private static void structure() {
        House h = RefusalTest::house;
        Slot branching = slot(fine(0, 1), and(NO_SUCH_KEY, 2, 4, 3, 4, 4, 4));
        Slot coupled = slot(fine(0, 1, 2, 3), and(NO_SUCH_KEY, 4, 4, 6, 4));
        all("unreached", h, Effect.NOTHING, (x, a) -> x.unreached(a[0]), a -> 0, branching);
        all("depth", h, Effect.NOTHING, (x, a) -> x.depth(a[0]), a -> 2, branching);
        all("parted", h, Effect.NOTHING, (x, a) -> x.parted(a[0], a[1], a[2]), a -> a[1] == a[2] ? 0 : 1, coupled, NAME, NAME);
        // Key 1: 11 and 12 are beyond its region; key 3: 0 and 5 are always within its slack.
        int[] twins = {0, 1, 0, 1};
        all("twins", h, Effect.NOTHING, (x, a) -> x.twins(a[0]), a -> twins[a[0]], coupled);
        all("trace", h, Effect.NOTHING, (x, a) -> x.trace(a[0], a[1]), null,
                slot(fine(0, 1, 2, 3, 4, 6), NO_SUCH_KEY), slot(fine(0, 1, 2, 3), wrong(-1, 3, 4, 3, MIN, 3, MAX, 3)));
        all("changes", h, Effect.NOTHING, (x, a) -> x.changes(), null);
        all("digest", h, Effect.NOTHING, (x, a) -> x.digest(), null);
    }

    /** 40 sheets and 40 keys were made, of which one of each is none. */
    private static HerbKey full() {
        HerbKey x = new HerbKey();
        for (int i = 0; i < 40; i++) x.sheet();
        for (int i = 0; i < 40; i++) x.key(i % 5);
        x.lose(39);
        x.drop(39);
        return x;
    }

    private static void fullHouse() {
        House h = RefusalTest::full;
        all("sheet", h, Effect.CHANGE, (x, a) -> { if (a[0] == 8) return x.sheet(); return x.lose(0); }, a -> 38,
                slot(fine(0), wrong(8, 8)));
        all("key", h, Effect.CHANGE, (x, a) -> x.key(a[0]), null, slot(fine(), wrong(0, 8, 4, 8, -1, 5, 5, 5)));
        all("drop", h, Effect.CHANGE, (x, a) -> x.drop(a[0]), a -> 38, slot(fine(0, 38), wrong(39, 1, 40, 1)));
        all("row", h, Effect.CHANGE, (x, a) -> x.row(a[0], 0, 1), a -> 1, slot(fine(0, 38), wrong(39, 2, 40, 2)));
    }

    /** No sheets, no keys, no proof, no changes: all that names one of these is refused. */
    private static void emptyHouse() {
        House h = HerbKey::new;
        Call[] noKey = {(x, a) -> x.drop(a[0]), (x, a) -> x.couplet(a[0], 99, 99, 99, 99), (x, a) -> x.lead(a[0], 9, true, 99),
            (x, a) -> x.join(a[0], a[0], a[0]), (x, a) -> x.region(a[0], 1), (x, a) -> x.want(a[0], 99, 9, 9),
            (x, a) -> x.weigh(a[0], 9, 99), (x, a) -> x.slack(a[0], 999), (x, a) -> x.learn(a[0], 9, 99),
            (x, a) -> x.ask(a[0], 9, 9), (x, a) -> x.cause(a[0], 9, 9), (x, a) -> x.names(a[0], 9), (x, a) -> x.sure(a[0], 9),
            (x, a) -> x.score(a[0], 9, 99), (x, a) -> x.next(a[0], 9), (x, a) -> x.compare(a[0], 9, 9),
            (x, a) -> x.unreached(a[0]), (x, a) -> x.depth(a[0]), (x, a) -> x.parted(a[0], 99, 99), (x, a) -> x.twins(a[0]),
            (x, a) -> x.parts(a[0], 99, 99), (x, a) -> x.trace(a[0], 99)};
        for (int i = 0; i < noKey.length; i++) {
            all("of no key, call " + i, h, Effect.NOTHING, noKey[i], null, slot(fine(), wrong(0, 1, -1, 1, 40, 1)));
        }
        Call[] noSheet = {(x, a) -> x.lose(a[0]), (x, a) -> x.row(a[0], 9, 99), (x, a) -> x.state(a[0], 9, 999),
            (x, a) -> x.measure(a[0], 9, MAX, 999), (x, a) -> x.lack(a[0], 9, 9), (x, a) -> x.code(a[0], 9, -1),
            (x, a) -> x.read(a[0], 9, 9), (x, a) -> x.merge(a[0], a[0])};
        for (int i = 0; i < noSheet.length; i++) {
            all("of no sheet, call " + i, h, Effect.NOTHING, noSheet[i], null, slot(fine(), wrong(0, 2, -1, 2, 40, 2)));
        }
        Slot none = slot(fine(), wrong(0, 7, -1, 7, -4, 7, MAX, 7));
        all("proof", h, Effect.NOTHING, (x, a) -> x.proof(a[0]), null, none);
        all("forge", h, Effect.NOTHING, (x, a) -> x.forge(a[0], 256), null, none);
        all("check", h, Effect.NOTHING, (x, a) -> x.check(), null, none);
        all("undo", h, Effect.NOTHING, (x, a) -> x.undo(), null, none);
        Slot noName = slot(fine(), wrong(0, 3, -1, 3, 64, 3));
        all("name", h, Effect.NOTHING, (x, a) -> x.name(a[0]), null, noName);
        all("unknowns", h, Effect.NOTHING, (x, a) -> x.unknowns(a[0]), null, noName);
        all("pick", PICK_ORDER, h, Effect.NOTHING, (x, a) -> x.pick(a[0]), null, noName);
    }

    /** Of the house with a full key: a call that is not refused, and one for each reason. */
    private static final Call[] REASONS = {(x, a) -> x.read(0, 0, 0), (x, a) -> x.drop(5), (x, a) -> x.lose(2), (x, a) -> x.name(9),
        (x, a) -> x.slack(0, 1), (x, a) -> x.slack(3, 100), (x, a) -> x.lead(0, 1, true, 1), (x, a) -> x.next(0, 0),
        (x, a) -> x.couplet(7, 0, 0, 0, 0)};

    /** Whatever the status was, the next call that can be refused sets it, and those that cannot leave it. */
    private static void everyReason() {
        Due.by("WHY a call was refused (BAD then, and nothing but STATUS is changed): 1 no such KEY. 2 no such SHEET. 3 no such COUPLET, NAME, "
                + "PLACE, kind of ROW, ENTRY, act; a ROW that is missing. 4 the KEY is not of that KIND. 5 a number not as told. 6 a ring of "
                + "LEADS, or a KEY that would ask itself. 7 there is nothing such. 8 too many.");
        for (int why = 1; why < 9; why++) {
            HerbKey x = withFullKey();
            Due.refused("reason " + why, x, REASONS[why].on(x, null), why);
            Due.same("reason " + why + " changes nothing", x, withFullKey());
        }
        Due.by("STATUS is that of the latest call of those that can be refused; 0: it was not.");
        for (int was = 0; was < 9; was++) {
            for (int why = 0; why < 9; why++) {
                HerbKey x = withFullKey();
                REASONS[was].on(x, null);
                Due.is("status", x.status(), was);
                Due.is("status again", x.status(), was);
                x.changes();
                Due.is("behind changes()", x.status(), was);
                x.digest();
                Due.is("behind digest()", x.status(), was);
                REASONS[why].on(x, null);
                Due.is("status " + why + " behind " + was, x.status(), why);
            }
        }
    }
}
