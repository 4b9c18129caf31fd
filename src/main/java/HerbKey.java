import java.util.Arrays;

/**
 * A house of keys for naming plants: sheets of what was seen, keys of five kinds that ask them or
 * one another, and all names that the answers let. README.md tells how to use it.
 */
public final class HerbKey {
    public static final int BAD = -1;

    private static final int MOST_SHEETS = 40;
    private static final int MOST_KEYS = 40;
    private static final int MOST_COUPLETS = 40;
    private static final int MOST_PLACES = 40;
    // Of a Walk, which goes among KEYS or among COUPLETS.
    private static final int MOST_STOPS = 40;
    private static final int NAMES = 64;
    // An object is used for 512 calls at most, so no promised call ever meets this bound.
    private static final int MOST_CHANGES = 512;

    // WHY a call was refused.
    private static final int GRANTED = 0;
    private static final int NO_KEY = 1;
    private static final int NO_SHEET = 2;
    private static final int NO_PART = 3;
    private static final int OTHER_KIND = 4;
    private static final int BAD_NUMBER = 5;
    private static final int RING = 6;
    private static final int NOTHING_SUCH = 7;
    private static final int TOO_MANY = 8;

    // The ROWS of a SHEET.
    private static final int STATES = 0;
    private static final int MEASURES = 1;
    private static final int CODES = 2;
    private static final int ROW_KINDS = 3;

    // A MEASURE is held as n * 256 + (e + 20), so that a row of zeros is a row of MEASURES 0.
    private static final int LEAST_POWER = -20;
    private static final int MOST_POWER = 100;
    private static final int MOST_NUMBER = 16777216;
    private static final long BELOW = 253;
    private static final long ABOVE = 254;
    private static final long NONE = 255;
    private static final long LEAST_LONG = -9223372036854775808L;
    private static final long MOST_LONG = 9223372036854775807L;

    private static final int BRANCHING = 0;
    private static final int REGIONAL = 1;
    private static final int TABLE = 2;
    private static final int WEIGHTED = 3;
    private static final int JOINED = 4;

    private static final int ASK_STATE = 0;
    private static final int ASK_CODE = 1;
    private static final int ASK_BELOW = 2;
    private static final int ASK_AT_MOST = 3;
    private static final int ASK_MULTIPLE = 4;
    private static final int ASK_LEFT = 5;
    private static final int ASK_WHOLE = 6;
    private static final int ASK_GIVES = 7;
    private static final int ASK_SCORE = 8;
    private static final int ASKS = 9;
    private static final int LEAST_P = -1;
    private static final int MOST_P = 60;
    private static final int[] LEAST_Q = {-128, 0, -16777216, -2147483648, 1, 1, -2147483648, 0, 0};
    private static final int[] MOST_Q = {127, 65535, 16777216, 2147483647, 16777216, 1000000, 2147483647, 63, 63};
    private static final int[] LEAST_R = {0, 0, -20, -20, -20, -1000000, 0, 0, -400};
    private static final int[] MOST_R = {0, 0, 100, 100, 100, 1000000, 32, 0, 400};

    private static final int NO = 0;
    private static final int YES = 1;
    private static final int UNKNOWN = 2;
    private static final int ANY = 2;

    // CAUSES of an UNKNOWN answer.
    private static final int SHEET_IS_NONE = 1;
    private static final int ROW_IS_MISSING = 2;
    private static final int PLACE_IS_NONE = 3;
    private static final int MEASURE_IS_NONE = 4;
    private static final int MEASURE_IS_ENDLESS = 5;
    private static final int KEY_IS_NONE = 6;
    private static final int KEY_IS_NOT_WEIGHTED = 7;
    private static final int NOT_SURE = 8;

    private static final int NOWHERE = -1;
    private static final int NAME_LEADS = 100;
    private static final int NOT_GIVEN = -1;
    // More UNKNOWNS than any way can have.
    private static final int NEVER = 1000;

    private static final int ACTS = 4;
    private static final int OF_ALL = 0;
    private static final int OF_BRANCHING = 1;
    private static final int OF_REGIONAL = 2;
    private static final int OF_TABLE = 3;
    private static final int OF_WEIGHTED = 4;
    private static final int OF_JOINED = 5;
    private static final int OF_INTERFACE = 6;

    // What a Change has to put back.
    private static final int SHEET_SLOT = 0;
    private static final int CELL = 1;
    private static final int KEY_SLOT = 2;
    private static final int COUPLET = 3;
    private static final int LEAD = 4;
    private static final int JOIN = 5;
    private static final int REGION = 6;
    private static final int WANTS = 7;
    private static final int WEIGHT = 8;
    private static final int SLACK = 9;

    private final Sheet[] sheets;
    private int sheetsMade;
    private final Key[] keys;
    private int keysMade;
    private final Walk walk;
    private Change latest;
    private int changeCount;
    private int why;

    private final int[] shownNames;
    private final int[] shownUnknowns;
    private int shownCount;
    private int shownKey;
    private int shownSheet;

    private boolean proofTaken;
    private int proofSource;
    private int proofSheet;
    private int proofName;
    private final int[] entries;
    private int entryCount;

    public HerbKey() {
        sheets = new Sheet[MOST_SHEETS];
        keys = new Key[MOST_KEYS];
        walk = new Walk();
        shownNames = new int[NAMES];
        shownUnknowns = new int[NAMES];
        entries = new int[MOST_COUPLETS];
    }

    // ---- sheets

    public int sheet() {
        if (sheetsMade >= MOST_SHEETS) return refuse(TOO_MANY);
        int made = sheetsMade;
        putSheet(made, new Sheet());
        sheetsMade++;
        return grant(made);
    }

    public int lose(int sheet) {
        if (sheetAt(sheet) == null) return refuse(NO_SHEET);
        putSheet(sheet, null);
        int left = 0;
        for (int i = 0; i < sheetsMade; i++) {
            if (sheets[i] != null) left++;
        }
        return grant(left);
    }

    public int row(int sheet, int kind, int n) {
        Sheet old = sheetAt(sheet);
        if (old == null) return refuse(NO_SHEET);
        if (kind < 0 || kind >= ROW_KINDS) return refuse(NO_PART);
        if (n < -1 || n > MOST_PLACES) return refuse(BAD_NUMBER);
        Sheet changed = old.twin();
        changed.putLine(kind, n < 0 ? null : new long[n]);
        putSheet(sheet, changed);
        return grant(n);
    }

    public int state(int sheet, int place, int v) {
        int refused = whyNoPlace(sheet, STATES, place);
        if (refused != GRANTED) return refuse(refused);
        if (v < -128 || v > 127) return refuse(BAD_NUMBER);
        putCell(sheet, STATES, place, v);
        return grant(v);
    }

    public int measure(int sheet, int place, int n, int e) {
        int refused = whyNoPlace(sheet, MEASURES, place);
        if (refused != GRANTED) return refuse(refused);
        if (n < -MOST_NUMBER || n > MOST_NUMBER) return refuse(BAD_NUMBER);
        if (e < LEAST_POWER || e > MOST_POWER) return refuse(BAD_NUMBER);
        putCell(sheet, MEASURES, place, n * 256L + (e - LEAST_POWER));
        return grant(n);
    }

    public int lack(int sheet, int place, int how) {
        int refused = whyNoPlace(sheet, MEASURES, place);
        if (refused != GRANTED) return refuse(refused);
        if (how < 0 || how > 2) return refuse(BAD_NUMBER);
        putCell(sheet, MEASURES, place, how == 0 ? NONE : how == 1 ? ABOVE : BELOW);
        return grant(how);
    }

    public int code(int sheet, int place, int v) {
        int refused = whyNoPlace(sheet, CODES, place);
        if (refused != GRANTED) return refuse(refused);
        if (v < 0 || v > 65535) return refuse(BAD_NUMBER);
        putCell(sheet, CODES, place, v);
        return grant(v);
    }

    public long read(int sheet, int kind, int place) {
        Sheet from = sheetAt(sheet);
        if (from == null) return refuse(NO_SHEET);
        if (!from.hasPlace(kind, place)) return refuse(NO_PART);
        why = GRANTED;
        return from.shown(kind, place);
    }

    public int merge(int a, int b) {
        Sheet to = sheetAt(a);
        Sheet from = sheetAt(b);
        if (to == null || from == null) return refuse(NO_SHEET);
        Sheet merged = to.twin();
        int came = merged.fillFrom(from);
        putSheet(a, merged);
        return grant(came);
    }

    // ---- keys

    public int key(int kind) {
        if (kind < BRANCHING || kind > JOINED) return refuse(BAD_NUMBER);
        if (keysMade >= MOST_KEYS) return refuse(TOO_MANY);
        int made = keysMade;
        putKey(made, newKey(kind, made));
        keysMade++;
        return grant(made);
    }

    public int drop(int key) {
        if (keyAt(key) == null) return refuse(NO_KEY);
        putKey(key, null);
        return grant(Long.bitCount(keysThere()));
    }

    public int couplet(int key, int ask, int p, int q, int r) {
        if (keyAt(key) == null) return refuse(NO_KEY);
        Coupled k = coupledAt(key);
        if (k == null) return refuse(OTHER_KIND);
        if (!isAsk(ask, p, q, r)) return refuse(BAD_NUMBER);
        if (k.count >= MOST_COUPLETS) return refuse(TOO_MANY);
        if (ask >= ASK_GIVES && wouldAsk(p, key)) return refuse(RING);
        remember(COUPLET, key);
        return grant(k.addCouplet(ask, p, q, r));
    }

    public int lead(int key, int couplet, boolean yes, int to) {
        if (keyAt(key) == null) return refuse(NO_KEY);
        Branching k = branchingAt(key);
        if (k == null) return refuse(OTHER_KIND);
        if (!k.hasCouplet(couplet) || !k.isLead(to)) return refuse(NO_PART);
        if (k.comesTo(to, couplet)) return refuse(RING);
        Change change = remember(LEAD, key);
        change.part = couplet;
        change.side = yes ? YES : NO;
        change.old = k.leadOf(couplet, yes);
        k.putLead(couplet, yes, to);
        return grant(to);
    }

    public int join(int key, int first, int second) {
        Key k = keyAt(key);
        if (k == null || keyAt(first) == null || keyAt(second) == null) return refuse(NO_KEY);
        if (!(k instanceof Joined)) return refuse(OTHER_KIND);
        if (wouldAsk(first, key) || wouldAsk(second, key)) return refuse(RING);
        Joined joined = (Joined) k;
        Change change = remember(JOIN, key);
        change.old = joined.first;
        change.also = joined.second;
        joined.first = first;
        joined.second = second;
        walkKeys(key);
        return grant(walk.count - 1);
    }

    public int region(int key, long names) {
        Key k = keyAt(key);
        if (k == null) return refuse(NO_KEY);
        if (!(k instanceof Regional)) return refuse(OTHER_KIND);
        Regional regional = (Regional) k;
        remember(REGION, key).old = regional.within;
        regional.within = names;
        return grant(Long.bitCount(names));
    }

    public int want(int key, int name, int couplet, int w) {
        if (keyAt(key) == null) return refuse(NO_KEY);
        Table k = tableAt(key);
        if (k == null) return refuse(OTHER_KIND);
        if (!isName(name) || !k.hasCouplet(couplet)) return refuse(NO_PART);
        if (w < NO || w > ANY) return refuse(BAD_NUMBER);
        rememberWants(key, k, name);
        long bit = 1L << couplet;
        k.wantNo[name] = w == NO ? k.wantNo[name] | bit : k.wantNo[name] & ~bit;
        k.wantYes[name] = w == YES ? k.wantYes[name] | bit : k.wantYes[name] & ~bit;
        return grant(w);
    }

    public int weigh(int key, int couplet, int w) {
        if (keyAt(key) == null) return refuse(NO_KEY);
        Weighted k = weightedAt(key);
        if (k == null) return refuse(OTHER_KIND);
        if (!k.hasCouplet(couplet)) return refuse(NO_PART);
        if (w < 0 || w > 9) return refuse(BAD_NUMBER);
        Change change = remember(WEIGHT, key);
        change.part = couplet;
        change.old = k.weights[couplet];
        k.weights[couplet] = w;
        return grant(w);
    }

    public int slack(int key, int n) {
        if (keyAt(key) == null) return refuse(NO_KEY);
        Weighted k = weightedAt(key);
        if (k == null) return refuse(OTHER_KIND);
        if (n < 0 || n > 99) return refuse(BAD_NUMBER);
        remember(SLACK, key).old = k.most;
        k.most = n;
        return grant(n);
    }

    public int learn(int key, int sheet, int name) {
        if (keyAt(key) == null) return refuse(NO_KEY);
        Table k = tableAt(key);
        if (k == null) return refuse(OTHER_KIND);
        if (!isName(name)) return refuse(NO_PART);
        settle(key, sheet);
        rememberWants(key, k, name);
        k.wantNo[name] = k.no;
        k.wantYes[name] = k.yes;
        return grant(Long.bitCount(k.no | k.yes));
    }

    // ---- answers and names

    public int ask(int key, int sheet, int couplet) {
        if (keyAt(key) == null) return refuse(NO_KEY);
        Coupled k = coupledAt(key);
        if (k == null || !k.hasCouplet(couplet)) return refuse(NO_PART);
        settle(key, sheet);
        return grant(k.isYes(couplet) ? YES : k.isNo(couplet) ? NO : UNKNOWN);
    }

    public int cause(int key, int sheet, int couplet) {
        if (keyAt(key) == null) return refuse(NO_KEY);
        Coupled k = coupledAt(key);
        if (k == null || !k.hasCouplet(couplet)) return refuse(NO_PART);
        settle(key, sheet);
        int reply = k.reply(couplet, sheetAt(sheet), keys);
        return grant(reply < 0 ? -reply : 0);
    }

    public int names(int key, int sheet) {
        Key k = keyAt(key);
        if (k == null) return refuse(NO_KEY);
        settle(key, sheet);
        shownKey = key;
        shownSheet = sheet;
        shownCount = 0;
        int given = k.countGiven();
        for (int u = 0; u <= MOST_COUPLETS && shownCount < given; u++) {
            showThoseWith(u, k);
        }
        return grant(shownCount);
    }

    public int name(int i) {
        if (i < 0 || i >= shownCount) return refuse(NO_PART);
        return grant(shownNames[i]);
    }

    public int unknowns(int i) {
        if (i < 0 || i >= shownCount) return refuse(NO_PART);
        return grant(shownUnknowns[i]);
    }

    public int pick(int i) {
        if (i < 0 || i >= shownCount) return refuse(NO_PART);
        Key k = keyAt(shownKey);
        if (k == null) return refuse(NOTHING_SUCH);
        int picked = shownNames[i];
        settle(shownKey, shownSheet);
        Coupled source = sourceOf(k, picked);
        if (k.fewest[picked] == NOT_GIVEN || source == null) return refuse(NOTHING_SUCH);
        proofTaken = true;
        proofSource = source.number;
        proofSheet = shownSheet;
        proofName = picked;
        entryCount = source.writeRow(picked, entries);
        return grant(entryCount);
    }

    public int proof(int j) {
        if (!proofTaken) return refuse(NOTHING_SUCH);
        if (j < -3 || j >= entryCount) return refuse(NO_PART);
        if (j == -1) return grant(proofSource);
        if (j == -2) return grant(proofSheet);
        return grant(j == -3 ? proofName : entries[j]);
    }

    public int forge(int j, int v) {
        if (!proofTaken) return refuse(NOTHING_SUCH);
        if (j < 0 || j >= entryCount) return refuse(NO_PART);
        if (v < 0 || v > 255) return refuse(BAD_NUMBER);
        entries[j] = v;
        return grant(v);
    }

    public int check() {
        if (!proofTaken) return refuse(NOTHING_SUCH);
        Coupled source = coupledAt(proofSource);
        if (source == null) return grant(0);
        settle(proofSource, proofSheet);
        boolean right = source.marksFit(entries, entryCount)
                && source.isRow(entries, entryCount, proofName);
        return grant(right ? 1 : 0);
    }

    public int sure(int key, int sheet) {
        Key k = keyAt(key);
        if (k == null) return refuse(NO_KEY);
        settle(key, sheet);
        if (k.countGiven() != 1) return grant(BAD);
        for (int name = 0; name < NAMES; name++) {
            if (k.fewest[name] == 0) return grant(name);
        }
        return grant(BAD);
    }

    public int score(int key, int sheet, int name) {
        if (keyAt(key) == null) return refuse(NO_KEY);
        Weighted k = weightedAt(key);
        if (k == null) return refuse(OTHER_KIND);
        if (!isName(name)) return refuse(NO_PART);
        settle(key, sheet);
        return grant(k.scoreOf(name));
    }

    public int next(int key, int sheet) {
        if (keyAt(key) == null) return refuse(NO_KEY);
        Coupled k = coupledAt(key);
        if (k == null) return refuse(OTHER_KIND);
        settle(key, sheet);
        int best = k.mostTelling(keys);
        return best < 0 ? refuse(NOTHING_SUCH) : grant(best);
    }

    public int compare(int key, int a, int b) {
        if (keyAt(key) == null) return refuse(NO_KEY);
        Coupled k = coupledAt(key);
        if (k == null) return refuse(OTHER_KIND);
        settle(key, a);
        long yesForA = k.yes;
        long noForA = k.no;
        settle(key, b);
        return grant(Long.bitCount((yesForA & k.no) | (noForA & k.yes)));
    }

    // ---- what a key is like

    public int unreached(int key) {
        if (keyAt(key) == null) return refuse(NO_KEY);
        Branching k = branchingAt(key);
        if (k == null) return refuse(OTHER_KIND);
        return grant(k.count - k.walkFrom(0));
    }

    public int depth(int key) {
        if (keyAt(key) == null) return refuse(NO_KEY);
        Branching k = branchingAt(key);
        if (k == null) return refuse(OTHER_KIND);
        return grant(k.longestWay());
    }

    public int parted(int key, int a, int b) {
        if (keyAt(key) == null) return refuse(NO_KEY);
        Coupled k = coupledAt(key);
        if (k == null) return refuse(OTHER_KIND);
        if (!isName(a) || !isName(b)) return refuse(NO_PART);
        return grant(k.setsApart(a, b, k.givable()) ? 1 : 0);
    }

    public int twins(int key) {
        if (keyAt(key) == null) return refuse(NO_KEY);
        Coupled k = coupledAt(key);
        if (k == null) return refuse(OTHER_KIND);
        return grant(k.pairsNotApart());
    }

    public int parts(int key, int a, int b) {
        if (keyAt(key) == null) return refuse(NO_KEY);
        Table k = tableAt(key);
        if (k == null) return refuse(OTHER_KIND);
        if (!isName(a) || !isName(b)) return refuse(NO_PART);
        return grant(Long.bitCount((k.wantNo[a] & k.wantYes[b]) | (k.wantYes[a] & k.wantNo[b])));
    }

    public int trace(int key, int act) {
        Key k = keyAt(key);
        if (k == null) return refuse(NO_KEY);
        if (act < 0 || act >= ACTS) return refuse(NO_PART);
        return grant(k.bodyOf(act));
    }

    // ---- the whole house

    public int undo() {
        Change change = latest;
        if (change == null) return refuse(NOTHING_SUCH);
        latest = change.before;
        changeCount--;
        takeBack(change);
        return grant(changeCount);
    }

    public int changes() {
        return changeCount;
    }

    public int status() {
        return why;
    }

    public long digest() {
        long d = 7 * 31 + sheetsMade;
        for (int i = 0; i < sheetsMade; i++) {
            Sheet s = sheets[i];
            d = s == null ? d * 31 : s.fold(d * 31 + 1);
        }
        d = d * 31 + keysMade;
        for (int i = 0; i < keysMade; i++) {
            Key k = keys[i];
            d = k == null ? d * 31 - 1 : k.fold(d * 31 + k.kind());
        }
        return d;
    }

    // ---- refusing and granting

    private int refuse(int reason) {
        why = reason;
        return BAD;
    }

    private int grant(int answer) {
        why = GRANTED;
        return answer;
    }

    // ---- finding

    private Sheet sheetAt(int sheet) {
        return sheet >= 0 && sheet < sheetsMade ? sheets[sheet] : null;
    }

    private Key keyAt(int key) {
        return key >= 0 && key < keysMade ? keys[key] : null;
    }

    private Coupled coupledAt(int key) {
        return keyAt(key) instanceof Coupled k ? k : null;
    }

    private Branching branchingAt(int key) {
        return keyAt(key) instanceof Branching k ? k : null;
    }

    private Table tableAt(int key) {
        return keyAt(key) instanceof Table k ? k : null;
    }

    private Weighted weightedAt(int key) {
        return keyAt(key) instanceof Weighted k ? k : null;
    }

    private int whyNoPlace(int sheet, int kind, int place) {
        Sheet s = sheetAt(sheet);
        if (s == null) return NO_SHEET;
        return s.hasPlace(kind, place) ? GRANTED : NO_PART;
    }

    private static boolean isName(int name) {
        return name >= 0 && name < NAMES;
    }

    private static boolean isAsk(int ask, int p, int q, int r) {
        if (ask < 0 || ask >= ASKS || p < LEAST_P || p > MOST_P) return false;
        return q >= LEAST_Q[ask] && q <= MOST_Q[ask] && r >= LEAST_R[ask] && r <= MOST_R[ask];
    }

    // ---- keys that ask keys

    private long keysThere() {
        long there = 0;
        for (int i = 0; i < keysMade; i++) {
            if (keys[i] != null) there |= 1L << i;
        }
        return there;
    }

    private void walkKeys(int start) {
        long there = keysThere();
        for (int i = 0; i < MOST_KEYS; i++) {
            Key k = keys[i];
            walk.onward[i] = k == null ? 0 : k.asked() & there;
        }
        walk.from(start);
    }

    /** Whether asking one KEY, which may be none, would mean asking the other one. */
    private boolean wouldAsk(int from, int key) {
        if (keyAt(from) == null) return false;
        walkKeys(from);
        return walk.hasSeen(key);
    }

    /** Finds what a KEY gives for a SHEET; the KEYS that it asks are done ahead of it, each once. */
    private void settle(int key, int sheet) {
        Sheet seen = sheetAt(sheet);
        walkKeys(key);
        for (int i = 0; i < walk.count; i++) {
            Key k = keyAt(walk.order[i]);
            if (k == null) continue;
            k.hear(seen, keys);
            k.give(keys);
        }
    }

    private Coupled sourceOf(Key key, int name) {
        Key at = key;
        // Each step goes down to a KEY that is asked, and no KEY asks itself.
        for (int step = 0; step < MOST_KEYS && at != null; step++) {
            int source = at.source(name, keys);
            if (source == at.number) break;
            at = keyAt(source);
        }
        return at instanceof Coupled k ? k : null;
    }

    private void showThoseWith(int unknowns, Key k) {
        for (int name = 0; name < NAMES && shownCount < NAMES; name++) {
            if (k.fewest[name] == unknowns) {
                shownNames[shownCount] = name;
                shownUnknowns[shownCount] = unknowns;
                shownCount++;
            }
        }
    }

    // ---- changes

    private Key newKey(int kind, int number) {
        switch (kind) {
            case BRANCHING:
                return new Branching(number);
            case REGIONAL:
                return new Regional(number);
            case TABLE:
                return new Table(number);
            case WEIGHTED:
                return new Weighted(number);
            default:
                return new Joined(number);
        }
    }

    private Change remember(int what, int at) {
        if (changeCount >= MOST_CHANGES) {
            // Only behind the 512th call: what is older is forgotten, so that the chain stays short.
            latest = null;
            changeCount = 0;
        }
        latest = new Change(what, at, latest);
        changeCount++;
        return latest;
    }

    private void rememberWants(int key, Table k, int name) {
        Change change = remember(WANTS, key);
        change.part = name;
        change.old = k.wantNo[name];
        change.also = k.wantYes[name];
    }

    private void putSheet(int at, Sheet sheet) {
        Change change = remember(SHEET_SLOT, at);
        change.sheet = sheets[at];
        change.old = sheetsMade;
        sheets[at] = sheet;
    }

    private void putKey(int at, Key key) {
        Change change = remember(KEY_SLOT, at);
        change.key = keys[at];
        change.old = keysMade;
        keys[at] = key;
    }

    private void putCell(int sheet, int kind, int place, long value) {
        Sheet s = sheetAt(sheet);
        if (s == null) return;
        Change change = remember(CELL, sheet);
        change.part = kind;
        change.side = place;
        change.old = s.at(kind, place);
        s.put(kind, place, value);
    }

    private void takeBack(Change change) {
        if (change.what == SHEET_SLOT) {
            sheets[change.at] = change.sheet;
            sheetsMade = (int) change.old;
        } else if (change.what == KEY_SLOT) {
            keys[change.at] = change.key;
            keysMade = (int) change.old;
        } else if (change.what == CELL) {
            Sheet s = sheetAt(change.at);
            if (s != null) s.put(change.part, change.side, change.old);
        } else {
            Key k = keyAt(change.at);
            if (k != null) k.putBack(change);
        }
    }

    /** A CHANGE that can be taken back: where it was, and what was there ahead of it. */
    private static final class Change {
        final int what;
        final int at;
        final Change before;
        int part;
        int side;
        long old;
        long also;
        Sheet sheet;
        Key key;

        Change(int what, int at, Change before) {
            this.what = what;
            this.at = at;
            this.before = before;
        }
    }

    /** A SHEET's three ROWS, null where missing, and the arithmetic of MEASURES. */
    private static final class Sheet {
        long[] states;
        long[] measures;
        long[] codes;

        /** Shares the ROWS: CHANGES are taken back in order, so the older one finds them as they were. */
        Sheet twin() {
            Sheet other = new Sheet();
            other.states = states;
            other.measures = measures;
            other.codes = codes;
            return other;
        }

        long[] line(int kind) {
            return kind == STATES ? states : kind == MEASURES ? measures : kind == CODES ? codes : null;
        }

        void putLine(int kind, long[] line) {
            if (kind == STATES) {
                states = line;
            } else if (kind == MEASURES) {
                measures = line;
            } else if (kind == CODES) {
                codes = line;
            }
        }

        boolean hasPlace(int kind, int place) {
            long[] line = line(kind);
            return line != null && place >= 0 && place < line.length;
        }

        long at(int kind, int place) {
            long[] line = line(kind);
            return line != null && place >= 0 && place < line.length ? line[place] : 0;
        }

        void put(int kind, int place, long value) {
            long[] line = line(kind);
            if (line != null && place >= 0 && place < line.length) line[place] = value;
        }

        /** What read() tells of a place that there is. */
        long shown(int kind, int place) {
            long v = at(kind, place);
            if (kind != MEASURES) return v;
            if (v == NONE) return 0;
            if (v == ABOVE) return MOST_LONG;
            if (v == BELOW) return LEAST_LONG;
            return whole(numberOf(v), powerOf(v) + 3);
        }

        int fillFrom(Sheet other) {
            int came = 0;
            for (int kind = 0; kind < ROW_KINDS; kind++) {
                long[] mine = line(kind);
                long[] theirs = other.line(kind);
                if (theirs == null) continue;
                if (mine == null) {
                    putLine(kind, theirs.clone());
                    came++;
                } else if (kind == MEASURES) {
                    // The twin that stays behind for undo() still holds the old ROW.
                    measures = mine.clone();
                    came += fillMeasures(measures, theirs);
                }
            }
            return came;
        }

        static int fillMeasures(long[] mine, long[] theirs) {
            int came = 0;
            for (int place = 0; place < mine.length && place < theirs.length; place++) {
                if (mine[place] == NONE && theirs[place] != NONE) {
                    mine[place] = theirs[place];
                    came++;
                }
            }
            return came;
        }

        long fold(long d) {
            for (int kind = 0; kind < ROW_KINDS; kind++) {
                long[] line = line(kind);
                d = d * 31 + (line == null ? -1 : line.length);
                for (int place = 0; line != null && place < line.length; place++) {
                    d = d * 31 + shown(kind, place);
                }
            }
            return d;
        }

        static long numberOf(long measure) {
            return measure >> 8;
        }

        static int powerOf(long measure) {
            return (int) (measure & 255) + LEAST_POWER;
        }

        /** Whether what is asked of a MEASURE that is a number is so. */
        static boolean holds(long measure, int ask, int q, int r) {
            long n = numberOf(measure);
            int e = powerOf(measure);
            switch (ask) {
                case ASK_BELOW:
                    return order(n, e, q, r) < 0;
                case ASK_AT_MOST:
                    return order(n, e, q, r) <= 0;
                case ASK_MULTIPLE:
                    return isMultiple(n, e, q, r);
                case ASK_LEFT:
                    return leavesAtLeast(n, e, q, r);
                case ASK_WHOLE:
                    return whole(n, e) >= (long) q << r;
                default:
                    return false;
            }
        }

        /** Below 0, 0 or above 0, as n * 2 ^ e is below, the same as or above q * 2 ^ r. */
        static int order(long n, int e, long q, int r) {
            // Both are ints: raised by 32 one is already beyond the other, and still a long.
            if (e >= r) return Long.compare(n << Math.min(e - r, 32), q);
            return Long.compare(n, q << Math.min(r - e, 32));
        }

        /** The whole part of n * 2 ^ e, or the nearest long. */
        static long whole(long n, int e) {
            if (e < 0) {
                long size = Math.abs(n) >> Math.min(-e, 63);
                return n < 0 ? -size : size;
            }
            if (n == 0) return 0;
            if (e < 64 && n << e >> e == n) return n << e;
            return n < 0 ? LEAST_LONG : MOST_LONG;
        }

        /** Neither number, if not 0, can be halved more than 24 times: 25 steps tell as much as all. */
        static boolean isMultiple(long n, int e, int q, int r) {
            if (q < 1) return false;
            if (e >= r) return (n << Math.min(e - r, 25)) % q == 0;
            return n % ((long) q << Math.min(r - e, 25)) == 0;
        }

        static boolean leavesAtLeast(long n, int e, long q, long r) {
            if (q < 1 || e < LEAST_POWER || e > MOST_POWER) return false;
            long size = Math.abs(n);
            // Below a power of 0 all is counted in parts of 2 ^ e instead.
            int parts = e < 0 ? -e : 0;
            long left = size % (q << parts);
            for (int i = 0; i < e; i++) {
                left = left * 2 % q;
            }
            return (n < 0 ? -left : left) >= r << parts;
        }
    }

    /** Goes from a stop, which is a KEY or a COUPLET, to all that come behind it; there are no rings. */
    private static final class Walk {
        // Of each stop those to which it leads at once, a bit each.
        final long[] onward;
        // The stops come to: each stands behind all to which it leads, so the start is the last one.
        final int[] order;
        // The stops between the start and where the walk is.
        final int[] open;
        long seen;
        int count;

        Walk() {
            onward = new long[MOST_STOPS];
            order = new int[MOST_STOPS];
            open = new int[MOST_STOPS];
        }

        void from(int start) {
            seen = 0;
            count = 0;
            if (start < 0 || start >= MOST_STOPS) return;
            int top = 0;
            open[0] = start;
            seen = 1L << start;
            // Each stop is opened once and closed once.
            for (int step = 0; step < 2 * MOST_STOPS && top >= 0; step++) {
                int here = open[top];
                long fresh = onward[here] & ~seen;
                if (fresh == 0) {
                    order[count] = here;
                    count++;
                    top--;
                } else {
                    top++;
                    long lowest = fresh & -fresh;
                    open[top] = Long.bitCount(lowest - 1);
                    seen |= lowest;
                }
            }
        }

        boolean hasSeen(int i) {
            return i >= 0 && i < MOST_STOPS && (seen >> i & 1) != 0;
        }
    }

    /** Acts that only some KINDS have bodies of their own for, and whose body each one is. */
    private interface Acts {
        default boolean lets(long amiss) {
            return amiss == 0;
        }

        default int letsBody() {
            return OF_INTERFACE;
        }

        default int weightOf(int couplet) {
            return 0;
        }

        default int weightBody() {
            return OF_INTERFACE;
        }
    }

    private abstract static class Key implements Acts {
        final int number;
        // The least number of UNKNOWNS of each NAME, by the latest settling.
        final int[] fewest;

        Key(int number) {
            this.number = number;
            fewest = new int[NAMES];
        }

        abstract int kind();

        /** The KEYS that it asks at once, a bit for each number. */
        abstract long asked();

        /** Fills fewest from the ANSWERS heard, or from the KEYS joined. */
        abstract void give(Key[] keys);

        abstract int giveBody();

        abstract void putBack(Change change);

        abstract long fold(long d);

        /** Takes the ANSWERS of its COUPLETS, if it has some; the KEYS asked are settled. */
        void hear(Sheet sheet, Key[] keys) {
        }

        /** The KEY from which THE ROW of a NAME comes, or one that is nearer to it. */
        int source(int name, Key[] keys) {
            return number;
        }

        int sourceBody() {
            return OF_ALL;
        }

        int bodyOf(int act) {
            switch (act) {
                case 0:
                    return giveBody();
                case 1:
                    return letsBody();
                case 2:
                    return weightBody();
                default:
                    return sourceBody();
            }
        }

        int countGiven() {
            int given = 0;
            for (int name = 0; name < NAMES; name++) {
                if (fewest[name] != NOT_GIVEN) given++;
            }
            return given;
        }
    }

    /** A KEY of two others. */
    private static final class Joined extends Key {
        int first;
        int second;

        Joined(int number) {
            super(number);
            first = -1;
            second = -1;
        }

        int kind() {
            return JOINED;
        }

        long asked() {
            return (first < 0 ? 0 : 1L << first) | (second < 0 ? 0 : 1L << second);
        }

        void give(Key[] keys) {
            for (int name = 0; name < NAMES; name++) {
                int one = fewestOf(first, name, keys);
                int two = fewestOf(second, name, keys);
                fewest[name] = prefersFirst(one, two) ? one : two;
            }
        }

        int giveBody() {
            return OF_JOINED;
        }

        int source(int name, Key[] keys) {
            if (name < 0 || name >= NAMES) return number;
            int one = fewestOf(first, name, keys);
            int two = fewestOf(second, name, keys);
            return prefersFirst(one, two) ? first : second;
        }

        int sourceBody() {
            return OF_JOINED;
        }

        void putBack(Change change) {
            if (change.what != JOIN) return;
            first = (int) change.old;
            second = (int) change.also;
        }

        long fold(long d) {
            return ((d * 31) * 31 + first) * 31 + second;
        }

        static boolean prefersFirst(int one, int two) {
            return one != NOT_GIVEN && (two == NOT_GIVEN || one <= two);
        }

        static int fewestOf(int key, int name, Key[] keys) {
            if (key < 0 || key >= keys.length || keys[key] == null) return NOT_GIVEN;
            return keys[key].fewest[name];
        }
    }

    /** A KEY with COUPLETS. */
    private abstract static class Coupled extends Key {
        int count;
        final int[] asks;
        final int[] ps;
        final int[] qs;
        final int[] rs;
        // The ANSWERS by the latest settling, a bit for each COUPLET; one in neither is UNKNOWN.
        long yes;
        long no;

        Coupled(int number) {
            super(number);
            asks = new int[MOST_COUPLETS];
            ps = new int[MOST_COUPLETS];
            qs = new int[MOST_COUPLETS];
            rs = new int[MOST_COUPLETS];
        }

        /** What a new COUPLET has at first beside what it asks. */
        void clearCouplet(int c) {
        }

        /** Writes THE ROW of a NAME that is given; answers how many ENTRIES. */
        abstract int writeRow(int name, int[] entries);

        /** Whether ENTRIES, whose MARKS fit the ANSWERS, are a ROW that gives a NAME. */
        abstract boolean isRow(int[] entries, int n, int name);

        /** The NAMES that it HAS, a bit each. */
        abstract long had();

        /** The NAMES that it gives by some ANSWERS, a bit each. */
        abstract long givable();

        /** Whether some ANSWERS give one and not the other of two NAMES that are both givable. */
        abstract boolean tells(int a, int b);

        abstract long foldCouplet(long d, int c);

        abstract long foldRest(long d);

        public int weightOf(int couplet) {
            return 1;
        }

        public int weightBody() {
            return OF_ALL;
        }

        final int addCouplet(int ask, int p, int q, int r) {
            int c = count;
            if (c >= MOST_COUPLETS) return BAD;
            asks[c] = ask;
            ps[c] = p;
            qs[c] = q;
            rs[c] = r;
            clearCouplet(c);
            count++;
            return c;
        }

        final boolean hasCouplet(int c) {
            return c >= 0 && c < count;
        }

        final boolean isYes(int c) {
            return (yes >> c & 1) != 0;
        }

        final boolean isNo(int c) {
            return (no >> c & 1) != 0;
        }

        final boolean isUnknown(int c) {
            return ((yes | no) >> c & 1) == 0;
        }

        long asked() {
            long all = 0;
            for (int c = 0; c < count; c++) {
                if (asks[c] >= ASK_GIVES && ps[c] >= 0 && ps[c] < MOST_KEYS) all |= 1L << ps[c];
            }
            return all;
        }

        final void hear(Sheet sheet, Key[] keys) {
            yes = 0;
            no = 0;
            for (int c = 0; c < count; c++) {
                int reply = reply(c, sheet, keys);
                if (reply == YES) yes |= 1L << c;
                if (reply == NO) no |= 1L << c;
            }
        }

        /** NO, YES, or, for UNKNOWN, its CAUSE, negative; the KEYS asked are settled. */
        final int reply(int c, Sheet sheet, Key[] keys) {
            if (sheet == null || !hasCouplet(c)) return -SHEET_IS_NONE;
            int ask = asks[c];
            if (ask >= ASK_GIVES) return replyOfKey(c, keys);
            int kind = ask == ASK_STATE ? STATES : ask == ASK_CODE ? CODES : MEASURES;
            if (sheet.line(kind) == null) return -ROW_IS_MISSING;
            if (!sheet.hasPlace(kind, ps[c])) return -PLACE_IS_NONE;
            long value = sheet.at(kind, ps[c]);
            if (kind != MEASURES) return value == qs[c] ? YES : NO;
            if (value == NONE) return -MEASURE_IS_NONE;
            if (value == ABOVE || value == BELOW) return -MEASURE_IS_ENDLESS;
            return Sheet.holds(value, ask, qs[c], rs[c]) ? YES : NO;
        }

        final int replyOfKey(int c, Key[] keys) {
            int p = ps[c];
            int name = qs[c];
            if (p < 0 || p >= keys.length || keys[p] == null) return -KEY_IS_NONE;
            if (asks[c] == ASK_SCORE) {
                if (!(keys[p] instanceof Weighted)) return -KEY_IS_NOT_WEIGHTED;
                return ((Weighted) keys[p]).scoreOf(name) >= rs[c] ? YES : NO;
            }
            int unknowns = keys[p].fewest[name];
            if (unknowns == NOT_GIVEN) return NO;
            return unknowns == 0 ? YES : -NOT_SURE;
        }

        /** The UNKNOWN COUPLET whose worse ANSWER leaves fewest NAMES; -1 if none is UNKNOWN. */
        final int mostTelling(Key[] keys) {
            int best = -1;
            int least = NAMES + 1;
            for (int c = 0; c < count; c++) {
                if (!isUnknown(c)) continue;
                yes ^= 1L << c;
                give(keys);
                int left = countGiven();
                yes ^= 1L << c;
                no ^= 1L << c;
                give(keys);
                left = Math.max(left, countGiven());
                no ^= 1L << c;
                if (left < least) {
                    least = left;
                    best = c;
                }
            }
            return best;
        }

        final boolean marksFit(int[] entries, int n) {
            for (int j = 0; j < n && j < entries.length; j++) {
                int c = entries[j] / 4;
                int mark = entries[j] % 4;
                if (!hasCouplet(c)) return false;
                if (mark == NO && !isNo(c)) return false;
                if (mark == YES && !isYes(c)) return false;
                if (mark >= UNKNOWN && !isUnknown(c)) return false;
            }
            return true;
        }

        final boolean setsApart(int a, int b, long givable) {
            if (a == b) return false;
            boolean givesA = (givable >> a & 1) != 0;
            boolean givesB = (givable >> b & 1) != 0;
            if (givesA != givesB) return true;
            return givesA && tells(a, b);
        }

        final int pairsNotApart() {
            long all = had();
            long given = givable();
            int pairs = 0;
            for (int a = 0; a < NAMES; a++) {
                if ((all >> a & 1) == 0) continue;
                for (int b = 0; b < a; b++) {
                    if ((all >> b & 1) != 0 && !setsApart(a, b, given)) pairs++;
                }
            }
            return pairs;
        }

        void putBack(Change change) {
            if (change.what == COUPLET && count > 0) count--;
        }

        final long fold(long d) {
            d = d * 31 + count;
            for (int c = 0; c < count; c++) {
                d = (d * 31 + asks[c]) * 31 + ps[c];
                d = (d * 31 + qs[c]) * 31 + rs[c];
                d = foldCouplet(d, c);
            }
            return foldRest(d);
        }
    }

    private static class Branching extends Coupled {
        final int[] noLeads;
        final int[] yesLeads;
        // Of each COUPLET a number that the running act counts.
        final int[] counted;
        final Walk ways;

        Branching(int number) {
            super(number);
            noLeads = new int[MOST_COUPLETS];
            yesLeads = new int[MOST_COUPLETS];
            counted = new int[MOST_COUPLETS];
            ways = new Walk();
        }

        int kind() {
            return BRANCHING;
        }

        final void clearCouplet(int c) {
            noLeads[c] = NOWHERE;
            yesLeads[c] = NOWHERE;
        }

        final boolean isLead(int to) {
            return to == NOWHERE || hasCouplet(to) || isName(to - NAME_LEADS);
        }

        final int leadOf(int c, boolean forYes) {
            return forYes ? yesLeads[c] : noLeads[c];
        }

        final void putLead(int c, boolean forYes, int to) {
            if (forYes) {
                yesLeads[c] = to;
            } else {
                noLeads[c] = to;
            }
        }

        final boolean comesTo(int from, int couplet) {
            return walkFrom(from) > 0 && ways.hasSeen(couplet);
        }

        /** Walks by LEADS, whatever the ANSWERS; tells how many COUPLETS are come to. */
        final int walkFrom(int start) {
            if (!hasCouplet(start)) return 0;
            for (int c = 0; c < count; c++) {
                ways.onward[c] = coupletBit(noLeads[c]) | coupletBit(yesLeads[c]);
            }
            ways.from(start);
            return ways.count;
        }

        final long coupletBit(int to) {
            return hasCouplet(to) ? 1L << to : 0;
        }

        static long nameBit(int to) {
            return isName(to - NAME_LEADS) ? 1L << (to - NAME_LEADS) : 0;
        }

        void give(Key[] keys) {
            Arrays.fill(fewest, NOT_GIVEN);
            int n = walkFrom(0);
            if (n == 0) return;
            Arrays.fill(counted, NEVER);
            counted[0] = 0;
            // From the start on, each COUPLET behind all that lead to it.
            for (int i = n - 1; i >= 0; i--) {
                int c = ways.order[i];
                if (counted[c] == NEVER) continue;
                int unknowns = counted[c] + (isUnknown(c) ? 1 : 0);
                if (!isYes(c)) comeTo(noLeads[c], unknowns);
                if (!isNo(c)) comeTo(yesLeads[c], unknowns);
            }
        }

        final void comeTo(int to, int unknowns) {
            if (hasCouplet(to)) {
                counted[to] = Math.min(counted[to], unknowns);
            } else if (isName(to - NAME_LEADS)) {
                int before = fewest[to - NAME_LEADS];
                if (before == NOT_GIVEN || unknowns < before) fewest[to - NAME_LEADS] = unknowns;
            }
        }

        int giveBody() {
            return OF_BRANCHING;
        }

        final int writeRow(int name, int[] entries) {
            countTo(name);
            int n = 0;
            int c = 0;
            while (n < MOST_COUPLETS && n < entries.length && hasCouplet(c)) {
                int mark = markTo(c, name);
                entries[n] = 4 * c + mark;
                n++;
                c = leadOf(c, mark % 2 == YES);
            }
            return n;
        }

        /** Counts for each COUPLET the fewest UNKNOWNS from it to a NAME. */
        final void countTo(int name) {
            int n = walkFrom(0);
            // From the ends on, each COUPLET behind all to which it leads.
            for (int i = 0; i < n; i++) {
                int c = ways.order[i];
                int byNo = isYes(c) ? NEVER : countedAt(noLeads[c], name);
                int byYes = isNo(c) ? NEVER : countedAt(yesLeads[c], name);
                counted[c] = Math.min(byNo, byYes) + (isUnknown(c) ? 1 : 0);
            }
        }

        final int countedAt(int to, int name) {
            if (to == NAME_LEADS + name) return 0;
            return hasCouplet(to) ? counted[to] : NEVER;
        }

        final int markTo(int c, int name) {
            if (isYes(c)) return YES;
            if (isNo(c)) return NO;
            boolean byYes = countedAt(yesLeads[c], name) <= countedAt(noLeads[c], name);
            return UNKNOWN + (byYes ? YES : NO);
        }

        boolean isRow(int[] entries, int n, int name) {
            int to = 0;
            for (int j = 0; j < n && j < entries.length; j++) {
                int c = entries[j] / 4;
                if (c != to || !hasCouplet(c)) return false;
                to = leadOf(c, entries[j] % 2 == YES);
            }
            return to == NAME_LEADS + name;
        }

        final int longestWay() {
            int n = walkFrom(0);
            for (int i = 0; i < n; i++) {
                int c = ways.order[i];
                counted[c] = 1 + Math.max(longestAt(noLeads[c]), longestAt(yesLeads[c]));
            }
            return n == 0 ? 0 : counted[0];
        }

        final int longestAt(int to) {
            return hasCouplet(to) ? counted[to] : 0;
        }

        final long had() {
            long all = 0;
            for (int c = 0; c < count; c++) {
                all |= nameBit(noLeads[c]) | nameBit(yesLeads[c]);
            }
            return all;
        }

        long givable() {
            long all = 0;
            int n = walkFrom(0);
            for (int i = 0; i < n; i++) {
                int c = ways.order[i];
                all |= nameBit(noLeads[c]) | nameBit(yesLeads[c]);
            }
            return all;
        }

        /** By NO and YES alone there is one WAY, so never two NAMES at once. */
        final boolean tells(int a, int b) {
            return a != b;
        }

        void putBack(Change change) {
            super.putBack(change);
            if (change.what == LEAD && hasCouplet(change.part)) {
                putLead(change.part, change.side == YES, (int) change.old);
            }
        }

        final long foldCouplet(long d, int c) {
            return (d * 31 + noLeads[c]) * 31 + yesLeads[c];
        }

        long foldRest(long d) {
            return d;
        }
    }

    private static final class Regional extends Branching {
        long within;

        Regional(int number) {
            super(number);
            within = -1L;
        }

        int kind() {
            return REGIONAL;
        }

        void give(Key[] keys) {
            super.give(keys);
            for (int name = 0; name < NAMES; name++) {
                if ((within >> name & 1) == 0) fewest[name] = NOT_GIVEN;
            }
        }

        int giveBody() {
            return OF_REGIONAL;
        }

        boolean isRow(int[] entries, int n, int name) {
            return isName(name) && (within >> name & 1) != 0 && super.isRow(entries, n, name);
        }

        long givable() {
            return super.givable() & within;
        }

        void putBack(Change change) {
            super.putBack(change);
            if (change.what == REGION) within = change.old;
        }

        long foldRest(long d) {
            return d * 31 + within;
        }
    }

    private static class Table extends Coupled {
        // Of each NAME the COUPLETS of which it wants NO, and YES, a bit each.
        final long[] wantNo;
        final long[] wantYes;

        Table(int number) {
            super(number);
            wantNo = new long[NAMES];
            wantYes = new long[NAMES];
        }

        int kind() {
            return TABLE;
        }

        final long wanted(int name) {
            return wantNo[name] | wantYes[name];
        }

        final int wantOf(int name, int c) {
            if ((wantYes[name] >> c & 1) != 0) return YES;
            return (wantNo[name] >> c & 1) != 0 ? NO : ANY;
        }

        final void give(Key[] keys) {
            for (int name = 0; name < NAMES; name++) {
                boolean given = wanted(name) != 0
                        && lets((yes & wantNo[name]) | (no & wantYes[name]));
                fewest[name] = given ? Long.bitCount(wanted(name) & ~(yes | no)) : NOT_GIVEN;
            }
        }

        final int giveBody() {
            return OF_TABLE;
        }

        /** Whether COUPLETS whose ANSWERS are not as wanted do no harm. */
        public boolean lets(long amiss) {
            return amiss == 0;
        }

        public int letsBody() {
            return OF_TABLE;
        }

        final int writeRow(int name, int[] entries) {
            int n = 0;
            for (int c = 0; c < count && n < entries.length; c++) {
                int want = wantOf(name, c);
                if (want == ANY) continue;
                int mark = isYes(c) ? YES : isNo(c) ? NO : UNKNOWN + want;
                entries[n] = 4 * c + mark;
                n++;
            }
            return n;
        }

        final boolean isRow(int[] entries, int n, int name) {
            int j = 0;
            long amiss = 0;
            for (int c = 0; c < count; c++) {
                int want = wantOf(name, c);
                if (want == ANY) continue;
                if (j >= n || j >= entries.length || entries[j] / 4 != c) return false;
                int mark = entries[j] % 4;
                if (mark % 2 != want) {
                    if (mark >= UNKNOWN) return false;
                    amiss |= 1L << c;
                }
                j++;
            }
            return j > 0 && j == n && lets(amiss);
        }

        final long had() {
            long all = 0;
            for (int name = 0; name < NAMES; name++) {
                if (wanted(name) != 0) all |= 1L << name;
            }
            return all;
        }

        /** ANSWERS that are all as wanted give each NAME that is KNOWN. */
        final long givable() {
            return had();
        }

        boolean tells(int a, int b) {
            return wantNo[a] != wantNo[b] || wantYes[a] != wantYes[b];
        }

        void putBack(Change change) {
            super.putBack(change);
            if (change.what == WANTS && isName(change.part)) {
                wantNo[change.part] = change.old;
                wantYes[change.part] = change.also;
            }
        }

        long foldCouplet(long d, int c) {
            return d;
        }

        long foldRest(long d) {
            for (int name = 0; name < NAMES; name++) {
                for (int c = 0; c < count; c++) {
                    d = d * 31 + wantOf(name, c);
                }
            }
            return d;
        }
    }

    private static final class Weighted extends Table {
        final int[] weights;
        int most;

        Weighted(int number) {
            super(number);
            weights = new int[MOST_COUPLETS];
        }

        int kind() {
            return WEIGHTED;
        }

        void clearCouplet(int c) {
            weights[c] = super.weightOf(c);
        }

        public int weightOf(int couplet) {
            return couplet >= 0 && couplet < count ? weights[couplet] : 0;
        }

        public int weightBody() {
            return OF_WEIGHTED;
        }

        public boolean lets(long amiss) {
            return weightOfAll(amiss) <= most;
        }

        public int letsBody() {
            return OF_WEIGHTED;
        }

        int weightOfAll(long couplets) {
            int sum = 0;
            long left = couplets;
            for (int c = 0; left != 0 && c < count; c++) {
                if ((left & 1) != 0) sum += weights[c];
                left >>>= 1;
            }
            return sum;
        }

        int scoreOf(int name) {
            int right = weightOfAll((yes & wantYes[name]) | (no & wantNo[name]));
            return right - weightOfAll((yes & wantNo[name]) | (no & wantYes[name]));
        }

        /**
         * ANSWERS that give the one and not the other are best as the one wants wherever it wants
         * what the other does not; what both want alike may be amiss for both up to the SLACK, and
         * the other has to come beyond it by what it wants alone.
         */
        boolean tells(int a, int b) {
            long alike = (wantNo[a] & wantNo[b]) | (wantYes[a] & wantYes[b]);
            int apart = Math.max(weightOfAll(wanted(a) & ~alike), weightOfAll(wanted(b) & ~alike));
            long low = 1;
            long high = 0;
            // Bit s of low, or s - 64 of high: some of the weights alike come to s.
            for (int c = 0; c < count; c++) {
                int w = weightOf(c);
                if ((alike >> c & 1) == 0 || w <= 0) continue;
                high |= (high << w) | (low >>> (64 - w));
                low |= low << w;
            }
            for (int s = Math.max(0, most - apart + 1); s <= most; s++) {
                long bits = s < 64 ? low >> s : high >> (s - 64);
                if ((bits & 1) != 0) return true;
            }
            return false;
        }

        void putBack(Change change) {
            super.putBack(change);
            if (change.what == WEIGHT && hasCouplet(change.part)) {
                weights[change.part] = (int) change.old;
            } else if (change.what == SLACK) {
                most = (int) change.old;
            }
        }

        long foldCouplet(long d, int c) {
            return d * 31 + weightOf(c);
        }

        long foldRest(long d) {
            return super.foldRest(d) * 31 + most;
        }
    }
}
