/**
 * The document's terms, 3 and 4: which names are given, with how many unknowns and by which row, when a
 * proof is right, and which names are parted; each where it turns.
 */
public final class GivingTest {
    public static void main(String[] args) {
        noWayWithoutCouplet0();
        leadsAtFirst();
        wayOfTheAnswer();
        unknownTakesBoth();
        fewestOfWays();
        mostUnknowns();
        regionAtFirst();
        wantsAtFirst();
        tableAsWanted();
        tableUnknowns();
        weightsAtFirst();
        slackAtItsEdge();
        greatestSlack();
        unknownAside();
        scores();
        joinedGives();
        joinedSource();
        rowOfBranching();
        rowByYes();
        rowOfTable();
        marksAndEntries();
        rightSource();
        rightMarks();
        rightWay();
        rightRegion();
        rightEmpty();
        rightTable();
        rightSlack();
        partedByBranching();
        partedByFullBranching();
        partedByTable();
        partedByWeights();
        partedAtEachSlack();
        namesHad();
        Due.end("names are given as the terms tell");
    }

    // ---- houses

    /** Sheet 0 with n states, all 1; key 0 of a kind with m couplets: is state c a 1? */
    private static HerbKey house(int n, int kind, int m) {
        HerbKey x = new HerbKey();
        x.sheet();
        x.row(0, 0, n);
        for (int p = 0; p < n; p++) x.state(0, p, 1);
        x.key(kind);
        for (int c = 0; c < m; c++) x.couplet(0, 0, c, 1, 0);
        return x;
    }

    /** Names and unknowns of a key for a sheet, in their order: 7, 0, 9, 2 for name 7 with 0, name 9 with 2. */
    private static void gives(HerbKey x, int key, int sheet, int... due) {
        Due.well("names", x, x.names(key, sheet), due.length / 2);
        for (int i = 0; i < due.length / 2; i++) {
            Due.well("name " + i, x, x.name(i), due[2 * i]);
            Due.well("unknowns " + i, x, x.unknowns(i), due[2 * i + 1]);
        }
        Due.refused("one more name", x, x.name(due.length / 2), 3);
        Due.refused("one more name", x, x.unknowns(due.length / 2), 3);
    }

    /** The row of name i: its source, and its entries. */
    private static void rowIs(HerbKey x, int i, int source, int... entries) {
        Due.well("pick " + i, x, x.pick(i), entries.length);
        Due.well("source", x, x.proof(-1), source);
        for (int j = 0; j < entries.length; j++) Due.well("entry " + j, x, x.proof(j), entries[j]);
        Due.refused("one more entry", x, x.proof(entries.length), 3);
        Due.well("the row that was picked is right", x, x.check(), 1);
    }

    // ---- 3: branching

    private static void noWayWithoutCouplet0() {
        Due.by("A WAY begins at COUPLET 0 (there is none without it)");
        for (int kind = 0; kind < 2; kind++) {
            HerbKey x = house(1, kind, 0);
            gives(x, 0, 0);
            gives(x, 0, 1);
            x.couplet(0, 0, 0, 1, 0);
            x.couplet(0, 0, 0, 1, 0);
            x.lead(0, 1, true, 107);
            gives(x, 0, 0);
            x.lead(0, 0, true, 1);
            gives(x, 0, 0, 7, 0);
            for (int i = 0; i < 4; i++) x.undo();
            gives(x, 0, 0);
        }
    }

    private static void leadsAtFirst() {
        Due.by("to another COUPLET, to a NAME, or (at first) nowhere.");
        HerbKey x = house(1, 0, 40);
        gives(x, 0, 0);
        gives(x, 0, 1);
        Due.is("nothing else is come to", x.unreached(0), 39);
        x.lead(0, 0, true, 39);
        gives(x, 0, 0);
        x.lead(0, 39, false, 100);
        x.lead(0, 39, true, 163);
        gives(x, 0, 0, 0, 1, 63, 1);
        x.lead(0, 39, false, -1);
        gives(x, 0, 0, 63, 1);
    }

    private static void wayOfTheAnswer() {
        Due.by("goes on by LEADS: that of the ANSWER");
        HerbKey x = house(40, 0, 40);
        for (int c = 0; c < 39; c++) {
            x.lead(0, c, true, c + 1);
            x.lead(0, c, false, 100 + c);
        }
        x.lead(0, 39, true, 163);
        x.lead(0, 39, false, 139);
        gives(x, 0, 0, 63, 0);
        for (int c = 39; c >= 0; c--) {
            x.state(0, c, 0);
            gives(x, 0, 0, c, 0);
        }
    }

    private static void unknownTakesBoth() {
        Due.by("of an UNKNOWN one, which counts, any of the two.");
        HerbKey x = house(1, 0, 2);
        x.lead(0, 0, true, 1);
        x.lead(0, 0, false, 105);
        x.lead(0, 1, true, 106);
        x.lead(0, 1, false, 104);
        gives(x, 0, 0, 4, 1, 6, 1);
        x.row(0, 0, 0);
        gives(x, 0, 0, 5, 1, 4, 2, 6, 2);
        x.lead(0, 1, false, -1);
        gives(x, 0, 0, 5, 1, 6, 2);
    }

    private static void fewestOfWays() {
        Due.by("A NAME to which a WAY leads is given; its UNKNOWNS are the fewest of such WAYS.");
        HerbKey x = house(0, 0, 4);
        for (int c = 0; c < 3; c++) x.lead(0, c, true, c + 1);
        x.lead(0, 3, true, 107);
        gives(x, 0, 0, 7, 4);
        for (int c = 3; c >= 0; c--) {
            x.lead(0, c, false, 107);
            gives(x, 0, 0, 7, c + 1);
        }
        for (int n = 1; n <= 4; n++) {
            x.row(0, 0, n);
            for (int p = 0; p < n; p++) x.state(0, p, 1);
            if (n < 4) gives(x, 0, 0, 7, 1); else gives(x, 0, 0, 7, 0);
        }
    }

    private static void mostUnknowns() {
        Due.by("Of each NAME that a KEY gives for a SHEET there is the least number of UNKNOWNS.");
        HerbKey x = house(0, 0, 40);
        for (int c = 0; c < 39; c++) x.lead(0, c, false, c + 1);
        x.lead(0, 39, false, 163);
        gives(x, 0, 0, 63, 40);
        x = house(0, 2, 40);
        for (int c = 0; c < 40; c++) x.want(0, 63, c, 0);
        gives(x, 0, 0, 63, 40);
        x.want(0, 63, 0, 2);
        gives(x, 0, 0, 63, 39);
    }

    private static void regionAtFirst() {
        Due.by("REGIONAL: of these only the NAMES in its REGION (at first all).");
        HerbKey x = house(0, 1, 3);
        x.lead(0, 0, true, 100);
        x.lead(0, 0, false, 1);
        x.lead(0, 1, true, 163);
        x.lead(0, 1, false, 2);
        x.lead(0, 2, true, 131);
        x.lead(0, 2, false, 132);
        gives(x, 0, 0, 0, 1, 63, 2, 31, 3, 32, 3);
        int[] names = {0, 63, 31, 32};
        int[] unknowns = {1, 2, 3, 3};
        for (int i = 0; i < 4; i++) {
            x.region(0, 1L << names[i]);
            gives(x, 0, 0, names[i], unknowns[i]);
        }
        x.region(0, ~(1L | 1L << 63 | 1L << 31 | 1L << 32));
        gives(x, 0, 0);
        x.region(0, 0);
        gives(x, 0, 0);
        x.region(0, -1L);
        gives(x, 0, 0, 0, 1, 63, 2, 31, 3, 32, 3);
    }

    // ---- 3: tables

    private static void wantsAtFirst() {
        Due.by("a NAME's WANTS are NO, YES or ANY (at first) for each COUPLET; it is KNOWN if some are not ANY.");
        for (int kind = 2; kind < 4; kind++) {
            HerbKey x = house(40, kind, 40);
            if (kind == 3) x.slack(0, 99);
            gives(x, 0, 0);
            gives(x, 0, 9);
            Due.is("no twins", x.twins(0), 0);
            x.want(0, 0, 39, 1);
            gives(x, 0, 0, 0, 0);
            x.want(0, 0, 39, 2);
            gives(x, 0, 0);
            x.want(0, 63, 0, 1);
            gives(x, 0, 0, 63, 0);
            x.want(0, 63, 39, 2);
            gives(x, 0, 0, 63, 0);
            x.want(0, 63, 0, 2);
            gives(x, 0, 0);
        }
    }

    private static void tableAsWanted() {
        Due.by("It is given if it is KNOWN, and each ANSWER is as wanted");
        HerbKey x = house(40, 2, 40);
        for (int c = 0; c < 40; c++) x.want(0, 5, c, 1);
        gives(x, 0, 0, 5, 0);
        for (int c = 0; c < 40; c += 39) {
            x.want(0, 5, c, 0);
            gives(x, 0, 0);
            x.state(0, c, 0);
            gives(x, 0, 0, 5, 0);
            x.want(0, 5, c, 1);
            gives(x, 0, 0);
            x.want(0, 5, c, 2);
            gives(x, 0, 0, 5, 0);
        }
    }

    private static void tableUnknowns() {
        Due.by("or UNKNOWN, which counts, where NO or YES is wanted.");
        HerbKey x = house(2, 2, 4);
        x.want(0, 5, 0, 1);
        x.want(0, 6, 2, 1);
        x.want(0, 7, 2, 1);
        x.want(0, 7, 3, 0);
        x.want(0, 8, 1, 0);
        x.want(0, 8, 3, 0);
        gives(x, 0, 0, 5, 0, 6, 1, 7, 2);
        gives(x, 0, 9, 5, 1, 6, 1, 7, 2, 8, 2);
    }

    private static void weightsAtFirst() {
        Due.by("each COUPLET has a WEIGHT 0 .. 9 (first 1), the KEY has SLACK 0 .. 99 (first 0)");
        HerbKey x = house(40, 3, 40);
        x.want(0, 5, 0, 1);
        x.want(0, 5, 39, 0);
        Due.is("1 less 1", x.score(0, 0, 5), 0);
        x.want(0, 5, 0, 2);
        Due.is("less 1", x.score(0, 0, 5), -1);
        gives(x, 0, 0);
        x.slack(0, 1);
        gives(x, 0, 0, 5, 0);
        x.slack(0, 0);
        x.weigh(0, 39, 0);
        gives(x, 0, 0, 5, 0);
        Due.is("less 0", x.score(0, 0, 5), 0);
        x.weigh(0, 39, 9);
        Due.is("less 9", x.score(0, 0, 5), -9);
        x.slack(0, 8);
        gives(x, 0, 0);
        x.slack(0, 9);
        gives(x, 0, 0, 5, 0);
        x = house(1, 3, 1);
        x.weigh(0, 0, 9);
        x.undo();
        x.undo();
        x.couplet(0, 0, 0, 1, 0);
        x.want(0, 5, 0, 1);
        Due.is("first 1, also of one that was taken back and made anew", x.score(0, 0, 5), 1);
    }

    private static void slackAtItsEdge() {
        Due.by("come to SLACK at most.");
        for (int slack = 0; slack <= 9; slack++) {
            for (int w = 0; w <= 9; w++) {
                HerbKey x = house(2, 3, 2);
                x.want(0, 5, 0, 0);
                x.want(0, 5, 1, 1);
                x.weigh(0, 0, w);
                x.weigh(0, 1, 9);
                x.slack(0, slack);
                if (w <= slack) gives(x, 0, 0, 5, 0); else gives(x, 0, 0);
            }
        }
    }

    private static void greatestSlack() {
        Due.by("SLACK 0 .. 99");
        HerbKey x = house(40, 3, 40);
        for (int c = 0; c < 40; c++) x.weigh(0, c, 9);
        for (int c = 0; c < 11; c++) x.want(0, 5, c, 0);
        x.slack(0, 98);
        gives(x, 0, 0);
        Due.well("99", x, x.slack(0, 99), 99);
        gives(x, 0, 0, 5, 0);
        x.want(0, 5, 39, 0);
        gives(x, 0, 0);
        x.weigh(0, 39, 1);
        gives(x, 0, 0);
        x.weigh(0, 39, 0);
        gives(x, 0, 0, 5, 0);
        for (int c = 0; c < 40; c++) x.want(0, 5, c, 0);
        gives(x, 0, 0);
        Due.is("all amiss but one of 0", x.score(0, 0, 5), -351);
        gives(x, 0, 1, 5, 40);
    }

    private static void unknownAside() {
        Due.by("the WEIGHTS of all ANSWERS that are not as wanted (UNKNOWN ones aside)");
        HerbKey x = house(2, 3, 4);
        x.want(0, 5, 1, 0);
        x.want(0, 5, 2, 0);
        x.want(0, 5, 3, 1);
        x.weigh(0, 2, 9);
        x.weigh(0, 3, 9);
        gives(x, 0, 0);
        x.slack(0, 1);
        gives(x, 0, 0, 5, 2);
        x.row(0, 0, 3);
        x.state(0, 1, 1);
        gives(x, 0, 0, 5, 1);
        x.state(0, 2, 1);
        gives(x, 0, 0);
        x.slack(0, 9);
        gives(x, 0, 0);
        x.slack(0, 10);
        gives(x, 0, 0, 5, 1);
    }

    private static void scores() {
        Due.by("(NO and YES alone, of wanted ones; 0 if the NAME is not KNOWN).");
        HerbKey x = house(3, 3, 5);
        for (int c = 0; c < 5; c++) x.weigh(0, c, c + 1);
        x.state(0, 1, 0);
        Due.well("not known", x, x.score(0, 0, 63), 0);
        int[] wants = {1, 0, 0, 1, 0};
        int[] sums = {1, 3, 0, 0, 0};
        for (int c = 0; c < 5; c++) {
            x.want(0, 63, c, wants[c]);
            Due.well("with couplet " + c, x, x.score(0, 0, 63), sums[c]);
        }
        x.want(0, 63, 0, 0);
        Due.well("1 amiss", x, x.score(0, 0, 63), -2);
        x.weigh(0, 2, 2);
        Due.well("-1 is a score", x, x.score(0, 0, 63), -1);
        Due.well("of no sheet", x, x.score(0, 1, 63), 0);
    }

    // ---- 3: joined

    /** Keys 0 and 1, tables that want states: name 5 of both, name 6 of key 0, name 7 of key 1; key 2 joins them. */
    private static HerbKey joined(int wantedBy0, int wantedBy1) {
        return joined(5, wantedBy0, wantedBy1);
    }

    private static HerbKey joined(int name, int wantedBy0, int wantedBy1) {
        HerbKey x = house(0, 2, 4);
        x.key(2);
        for (int c = 0; c < 4; c++) x.couplet(1, 0, c, 1, 0);
        for (int c = 0; c < wantedBy0; c++) x.want(0, name, c, 1);
        for (int c = 0; c < wantedBy1; c++) x.want(1, name, c, 0);
        x.want(0, 6, 0, 0);
        x.want(1, 7, 0, 0);
        x.key(4);
        return x;
    }

    private static void joinedGives() {
        Due.by("a NAME that one of its two KEYS gives (one that is none gives none), with the lesser number.");
        HerbKey x = joined(2, 3);
        gives(x, 2, 0);
        x.join(2, 0, 1);
        gives(x, 2, 0, 6, 1, 7, 1, 5, 2);
        x.join(2, 1, 0);
        gives(x, 2, 0, 6, 1, 7, 1, 5, 2);
        x.join(2, 1, 1);
        gives(x, 2, 0, 7, 1, 5, 3);
        x.join(2, 0, 1);
        x.drop(0);
        gives(x, 2, 0, 7, 1, 5, 3);
        x.undo();
        x.drop(1);
        gives(x, 2, 0, 6, 1, 5, 2);
        x.drop(0);
        gives(x, 2, 0);
    }

    private static void joinedSource() {
        Due.by("of a JOINED one that of its first KEY, if this gives it with as few UNKNOWNS as the second one, or that "
                + "does not give it; else of the second one (and so on).");
        int[] names = {0, 5, 63};
        for (int name : names) for (int a = 0; a < 4; a++) for (int b = 0; b < 4; b++) joinedSource(name, a, b);
    }

    private static void joinedSource(int name, int a, int b) {
        if (a + b == 0) return;
        HerbKey x = joined(name, a, b);
        x.join(2, 0, 1);
        x.key(4);
        x.join(3, 2, 0);
        boolean first = a != 0 && (b == 0 || a <= b);
        for (int key = 2; key < 4; key++) {
            int n = x.names(key, 0);
            Due.is("names", n, 3);
            for (int i = 0; i < n; i++) {
                if (x.name(i) != name) continue;
                Due.well("pick", x, x.pick(i), first ? a : b);
                Due.is("source of " + a + " and " + b, x.proof(-1), first ? 0 : 1);
                Due.is("right", x.check(), 1);
            }
        }
    }

    // ---- 3: rows

    private static void rowOfBranching() {
        Due.by("BRANCHING: the COUPLETS of a WAY with the fewest UNKNOWNS");
        HerbKey x = house(2, 0, 5);
        // By YES two unknowns to name 9, by NO one, with couplets 0 and 1 answered.
        x.row(0, 0, 2);
        x.couplet(0, 0, 0, 0, 0);
        x.lead(0, 0, false, 2);
        x.lead(0, 2, true, 3);
        x.lead(0, 3, true, 109);
        x.lead(0, 2, false, 1);
        x.lead(0, 1, false, 5);
        x.lead(0, 5, true, 109);
        gives(x, 0, 0, 9, 1);
        rowIs(x, 0, 0, 0, 10, 4, 21);
        x.lead(0, 2, true, 109);
        rowIs(x, 0, 0, 0, 11);
        x.lead(0, 0, false, 109);
        rowIs(x, 0, 0, 0);
        // By YES over 2 and 4, by NO over 3 alone, all unknown; couplet 1 is none of these.
        x = house(0, 0, 5);
        x.lead(0, 0, true, 2);
        x.lead(0, 0, false, 3);
        x.lead(0, 2, true, 4);
        x.lead(0, 4, true, 109);
        x.lead(0, 3, true, 109);
        gives(x, 0, 0, 9, 2);
        rowIs(x, 0, 0, 2, 15);
        x.lead(0, 2, false, 109);
        rowIs(x, 0, 0, 3, 10);
    }

    private static void rowByYes() {
        Due.by("of several the one that goes on by YES where they part first");
        HerbKey x = house(0, 0, 4);
        x.lead(0, 0, true, 1);
        x.lead(0, 0, false, 109);
        x.lead(0, 1, true, 2);
        x.lead(0, 1, false, 3);
        x.lead(0, 2, false, 109);
        x.lead(0, 3, true, 109);
        gives(x, 0, 0, 9, 1);
        rowIs(x, 0, 0, 2);
        x.lead(0, 0, false, 1);
        gives(x, 0, 0, 9, 3);
        rowIs(x, 0, 0, 3, 7, 10);
        x.lead(0, 2, true, 109);
        rowIs(x, 0, 0, 3, 7, 11);
        x.lead(0, 2, true, -1);
        x.lead(0, 2, false, -1);
        rowIs(x, 0, 0, 3, 6, 15);
        x.lead(0, 0, true, -1);
        rowIs(x, 0, 0, 2, 6, 15);
    }

    private static void rowOfTable() {
        Due.by("TABLE: all COUPLETS wanted, in order.");
        for (int kind = 2; kind < 4; kind++) {
            HerbKey x = house(2, kind, 40);
            int[] wanted = {39, 1, 38, 0, 20};
            for (int c : wanted) x.want(0, 9, c, c % 2 == 0 ? 0 : 1);
            if (kind == 2) {
                x.state(0, 0, 0);
                gives(x, 0, 0, 9, 3);
                rowIs(x, 0, 0, 0, 5, 82, 154, 159);
            } else {
                x.slack(0, 1);
                gives(x, 0, 0, 9, 3);
                rowIs(x, 0, 0, 1, 5, 82, 154, 159);
            }
            for (int c = 0; c < 40; c++) x.want(0, 9, c, c < 2 ? 1 : 0);
            x.state(0, 0, 1);
            x.names(0, 0);
            Due.well("all 40", x, x.pick(0), 40);
            for (int c = 0; c < 40; c++) Due.is("entry " + c, x.proof(c), 4 * c + (c < 2 ? 1 : 2));
            Due.refused("entry 40", x, x.proof(40), 3);
        }
    }

    private static void marksAndEntries() {
        Due.by("Each with a MARK: 0 NO, 1 YES; 2 UNKNOWN, taken as NO, 3 UNKNOWN, taken as YES (of a TABLE: as wanted). An ENTRY "
                + "is 4 times the COUPLET, and its MARK.");
        for (int answer = 0; answer < 3; answer++) {
            for (int side = 0; side < 2; side++) {
                int mark = answer == 2 ? 2 + side : answer;
                if (answer == 2 || answer == side) {
                    HerbKey x = house(answer == 2 ? 39 : 40, 0, 40);
                    for (int c = 0; c < 39; c++) x.lead(0, c, true, c + 1);
                    x.lead(0, 39, side == 1, 109);
                    if (answer < 2) x.state(0, 39, answer);
                    x.names(0, 0);
                    Due.well("pick", x, x.pick(0), 40);
                    Due.is("the last entry", x.proof(39), 156 + mark);
                    Due.is("the first entry", x.proof(0), 1);
                }
                HerbKey x = house(answer == 2 ? 39 : 40, 3, 40);
                x.slack(0, 1);
                x.want(0, 9, 39, side);
                if (answer < 2) x.state(0, 39, answer);
                gives(x, 0, 0, 9, answer == 2 ? 1 : 0);
                rowIs(x, 0, 0, 156 + mark);
            }
        }
    }

    // ---- 4: a proof that is right

    private static void rightSource() {
        Due.by("the SOURCE is a KEY, not JOINED");
        for (int kind = 0; kind < 5; kind++) {
            HerbKey x = house(1, 2, 1);
            x.want(0, 9, 0, 1);
            gives(x, 0, 0, 9, 0);
            rowIs(x, 0, 0, 1);
            x.drop(0);
            Due.well("dropped", x, x.check(), 0);
            for (int i = 0; i < 4; i++) x.undo();
            Due.well("none", x, x.check(), 0);
            x.key(kind);
            Due.well("one of its number, without couplets", x, x.check(), 0);
            if (kind == 4) continue;
            x.couplet(0, 0, 0, 1, 0);
            Due.well("one of its number, which does not give it", x, x.check(), 0);
            if (kind < 2) x.lead(0, 0, true, 109); else x.want(0, 9, 0, 1);
            Due.well("one of its number that gives it", x, x.check(), 1);
        }
    }

    /** Every ENTRY from 0 to 255 in the place of the last one: those alone are right that are due. */
    private static void forgeAll(HerbKey x, int j, int... right) {
        for (int v = 0; v < 256; v++) {
            boolean due = false;
            for (int r : right) due |= r == v;
            // The object is used for 512 calls at most: the entries that cannot be right are tried by fours.
            if (!due && v > 24 && v % 4 != 3 && v < 150) continue;
            x.forge(j, v);
            Due.is("entry " + v + " at " + j, x.check(), due ? 1 : 0);
        }
    }

    private static void rightMarks() {
        Due.by("each ENTRY's COUPLET is one of it, with MARK 0 or 1 the ANSWER, and 2 or 3 only if that is UNKNOWN");
        for (int answer = 0; answer < 3; answer++) {
            HerbKey x = house(answer == 2 ? 0 : 1, 0, 1);
            x.lead(0, 0, true, 109);
            x.lead(0, 0, false, 109);
            if (answer < 2) x.state(0, 0, answer);
            x.names(0, 0);
            x.pick(0);
            if (answer == 2) forgeAll(x, 0, 2, 3); else forgeAll(x, 0, answer);
        }
        // The last couplet that there can be, and those beyond it.
        HerbKey x = house(0, 2, 40);
        x.want(0, 9, 39, 1);
        x.names(0, 0);
        x.pick(0);
        forgeAll(x, 0, 159);
        x = house(40, 3, 40);
        x.want(0, 9, 39, 0);
        x.slack(0, 1);
        x.names(0, 0);
        x.pick(0);
        forgeAll(x, 0, 157);
    }

    private static void rightWay() {
        Due.by("BRANCHING: the ENTRIES are a WAY from COUPLET 0 by their MARKS (0 and 2 as NO), the last one leads to the NAME");
        HerbKey x = house(0, 0, 4);
        x.lead(0, 0, true, 1);
        x.lead(0, 0, false, 2);
        x.lead(0, 1, true, 109);
        x.lead(0, 2, false, 109);
        x.lead(0, 2, true, 3);
        x.lead(0, 3, true, 109);
        gives(x, 0, 0, 9, 2);
        rowIs(x, 0, 0, 3, 7);
        int[][] ways = {{2, 10, 1}, {2, 11, 0}, {3, 6, 0}, {3, 10, 0}, {2, 7, 0}, {7, 3, 0}, {3, 15, 0}, {3, 3, 0}, {7, 7, 0}, {3, 7, 1}};
        for (int[] w : ways) {
            x.forge(0, w[0]);
            x.forge(1, w[1]);
            Due.well("entries " + w[0] + ", " + w[1], x, x.check(), w[2]);
        }
        x.lead(0, 1, true, 108);
        Due.well("leads to another name", x, x.check(), 0);
        x.lead(0, 1, true, -1);
        Due.well("leads nowhere", x, x.check(), 0);
        x.lead(0, 1, true, 3);
        Due.well("goes on", x, x.check(), 0);
        x.lead(0, 1, true, 109);
        Due.well("leads to it", x, x.check(), 1);
        x.lead(0, 0, true, 109);
        Due.well("the first one leads to it already", x, x.check(), 0);
    }

    private static void rightRegion() {
        Due.by("(in its REGION, if REGIONAL)");
        int[] names = {0, 31, 32, 63};
        for (int n : names) {
            HerbKey x = house(1, 1, 1);
            x.lead(0, 0, true, 100 + n);
            x.names(0, 0);
            x.pick(0);
            Due.well("right", x, x.check(), 1);
            x.region(0, ~(1L << n));
            Due.well("all but it", x, x.check(), 0);
            x.region(0, 1L << n);
            Due.well("it alone", x, x.check(), 1);
            x.region(0, 0);
            Due.well("none", x, x.check(), 0);
        }
    }

    private static void rightEmpty() {
        Due.by("and there is one at least");
        // A source has one couplet at least when it is picked; none are left when all is taken back.
        HerbKey x = house(1, 0, 1);
        x.lead(0, 0, true, 100);
        x.names(0, 0);
        Due.well("one entry", x, x.pick(0), 1);
        Due.well("right", x, x.check(), 1);
        x.undo();
        Due.well("no lead", x, x.check(), 0);
        x.undo();
        Due.well("no couplet", x, x.check(), 0);
    }

    private static void rightTable() {
        Due.by("TABLE: the NAME is KNOWN, the ENTRIES' COUPLETS are all that are wanted, in order, 2 and 3 are as wanted, and 0 and 1, too");
        for (int kind = 2; kind < 4; kind++) {
            HerbKey x = house(2, kind, 5);
            x.want(0, 9, 1, 1);
            x.want(0, 9, 2, 0);
            x.want(0, 9, 3, 1);
            gives(x, 0, 0, 9, 2);
            rowIs(x, 0, 0, 5, 10, 15);
            int[][] forged = {{4, 10, 15, 0}, {7, 10, 15, 0}, {5, 11, 15, 0}, {5, 8, 15, 0}, {5, 10, 14, 0}, {5, 10, 13, 0},
                {5, 15, 10, 0}, {10, 5, 15, 0}, {5, 5, 15, 0}, {5, 10, 10, 0}, {1, 10, 15, 0}, {5, 10, 19, 0}, {5, 10, 15, 1}};
            for (int[] f : forged) {
                for (int j = 0; j < 3; j++) x.forge(j, f[j]);
                Due.well("entries " + f[0] + ", " + f[1] + ", " + f[2], x, x.check(), f[3]);
            }
            x.want(0, 9, 4, 0);
            Due.well("one more is wanted", x, x.check(), 0);
            x.want(0, 9, 4, 2);
            x.want(0, 9, 0, 1);
            Due.well("one ahead is wanted", x, x.check(), 0);
            x.want(0, 9, 0, 2);
            Due.well("right again", x, x.check(), 1);
            x.want(0, 9, 3, 2);
            Due.well("the last is not wanted", x, x.check(), 0);
            x.want(0, 9, 3, 1);
            x.want(0, 9, 3, 0);
            Due.well("taken as yes, but no is wanted", x, x.check(), 0);
            x.want(0, 9, 1, 2);
            x.want(0, 9, 2, 2);
            x.want(0, 9, 3, 2);
            Due.well("not known", x, x.check(), 0);
        }
    }

    private static void rightSlack() {
        Due.by("or (WEIGHTED) the WEIGHTS of those that are not come to SLACK at most.");
        HerbKey x = house(2, 3, 3);
        x.want(0, 9, 0, 0);
        x.want(0, 9, 1, 0);
        x.want(0, 9, 2, 0);
        x.slack(0, 99);
        gives(x, 0, 0, 9, 1);
        rowIs(x, 0, 0, 1, 5, 10);
        for (int a = 0; a <= 9; a += 3) {
            for (int b = 0; b <= 9; b += 3) {
                x.weigh(0, 0, a);
                x.weigh(0, 1, b);
                x.weigh(0, 2, 9);
                x.slack(0, a + b);
                Due.well(a + " and " + b + " within", x, x.check(), 1);
                if (a + b > 0) {
                    x.slack(0, a + b - 1);
                    Due.well(a + " and " + b + " beyond", x, x.check(), 0);
                }
            }
        }
        x.slack(0, 99);
        x.forge(2, 11);
        Due.well("taken as YES, but NO is wanted, whatever the slack", x, x.check(), 0);
        x.want(0, 9, 2, 1);
        Due.well("taken as YES, as wanted", x, x.check(), 1);
        x.forge(2, 10);
        Due.well("taken as NO, but YES is wanted, whatever the slack", x, x.check(), 0);
    }

    // ---- 4: names parted, names had

    private static void partedByBranching() {
        Due.by("Two NAMES are PARTED, if by some such ANSWERS it gives one and not the other.");
        for (int kind = 0; kind < 2; kind++) {
            HerbKey x = house(0, kind, 3);
            Due.well("gives none", x, x.parted(0, 0, 63), 0);
            x.lead(0, 0, true, 100);
            Due.well("one alone", x, x.parted(0, 0, 63), 1);
            Due.well("one alone", x, x.parted(0, 63, 0), 1);
            Due.well("itself", x, x.parted(0, 0, 0), 0);
            x.lead(0, 0, false, 163);
            Due.well("both", x, x.parted(0, 0, 63), 1);
            x.lead(0, 1, true, 105);
            x.lead(0, 1, false, 106);
            Due.well("two never come to", x, x.parted(0, 5, 6), 0);
            Due.well("one never come to", x, x.parted(0, 5, 63), 1);
            if (kind == 0) continue;
            x.region(0, ~1L);
            Due.well("one beyond the region", x, x.parted(0, 0, 63), 1);
            x.region(0, ~(1L | 1L << 63));
            Due.well("both beyond the region", x, x.parted(0, 0, 63), 0);
            x.region(0, 1L << 63);
            Due.well("one in the region", x, x.parted(0, 63, 0), 1);
        }
    }

    /** All 40 couplets come to, with 41 leads to names, and then fewer and fewer. */
    private static void partedByFullBranching() {
        Due.by("NAMES that it HAS are those of LEADS (of COUPLETS never come to, and beyond its REGION, too), or those KNOWN.");
        for (int kind = 0; kind < 2; kind++) {
            HerbKey x = house(0, kind, 40);
            for (int c = 0; c < 39; c++) {
                x.lead(0, c, true, c + 1);
                x.lead(0, c, false, 100 + c);
            }
            x.lead(0, 39, true, 163);
            x.lead(0, 39, false, 139);
            Due.well("all come to", x, x.unreached(0), 0);
            Due.well("all names parted", x, x.twins(0), 0);
            Due.well("the first and the last", x, x.parted(0, 0, 63), 1);
            Due.well("41 names", x, x.names(0, 0), 41);
            Due.well("the last name, with 40 unknowns", x, x.unknowns(40), 40);
            for (int c = 38; c >= 0; c--) {
                x.lead(0, c, true, -1);
                int lost = 40 - c;
                Due.well("names never come to", x, x.twins(0), lost * (lost - 1) / 2);
                Due.well("two of them", x, x.parted(0, 63, 39), 0);
                Due.well("one of them", x, x.parted(0, 39, c), 1);
            }
        }
    }

    private static void partedByTable() {
        Due.by("if each of its COUPLETS is answered by NO or YES somehow (as one likes), gives some NAMES.");
        for (int one = 0; one < 3; one++) {
            for (int two = 0; two < 3; two++) {
                for (int kind = 2; kind < 4; kind++) {
                    HerbKey x = house(0, kind, 40);
                    x.want(0, 0, 39, one);
                    x.want(0, 63, 39, two);
                    Due.well("wants " + one + " and " + two, x, x.parted(0, 0, 63), one == two ? 0 : 1);
                    x.want(0, 0, 0, 1);
                    x.want(0, 63, 0, 1);
                    Due.well("and one alike", x, x.parted(0, 63, 0), one == two ? 0 : 1);
                    Due.is("parts", x.parts(0, 0, 63), one + two == 1 ? 1 : 0);
                    Due.is("twins", x.twins(0), one == two ? 1 : 0);
                }
            }
        }
    }

    private static void partedByWeights() {
        Due.by("Two NAMES are PARTED, if by some such ANSWERS it gives one and not the other.");
        for (int alike = 0; alike <= 9; alike += 3) {
            for (int apart = 0; apart <= 2; apart++) {
                for (int slack = 0; slack <= 12; slack++) {
                    HerbKey x = house(0, 3, 2);
                    x.weigh(0, 0, alike);
                    x.weigh(0, 1, apart);
                    x.slack(0, slack);
                    x.want(0, 0, 0, 1);
                    x.want(0, 63, 0, 1);
                    x.want(0, 63, 1, 1);
                    boolean told = apart > slack || alike <= slack && alike + apart > slack;
                    Due.well(alike + " alike, " + apart + " apart, " + slack, x, x.parted(0, 0, 63), told ? 1 : 0);
                    Due.is("twins", x.twins(0), told ? 0 : 1);
                    Due.is("a name not known", x.parted(0, 0, 1), 1);
                }
            }
        }
    }

    /**
     * Both names want what weighs w each alike, one of them one thing more, of weight 1: ANSWERS part them if
     * some of the WEIGHTS alike come to the SLACK exactly.
     */
    private static void partedAtEachSlack() {
        Due.by("Two NAMES are PARTED, if by some such ANSWERS it gives one and not the other.");
        for (int w = 0; w <= 9; w++) {
            HerbKey x = house(0, 3, 40);
            for (int c = 0; c < 40; c++) {
                if (w != 1 && c < 39) x.weigh(0, c, w);
                x.want(0, 63, c, 1);
                if (c < 39) x.want(0, 0, c, 1);
            }
            for (int slack = 0; slack <= 99; slack++) {
                x.slack(0, slack);
                boolean told = w == 0 ? slack == 0 : slack % w == 0 && slack / w <= 39;
                Due.is("weights " + w + ", slack " + slack, x.parted(0, 0, 63), told ? 1 : 0);
            }
        }
    }

    private static void namesHad() {
        Due.by("NAMES that it HAS are those of LEADS (of COUPLETS never come to, and beyond its REGION, too), or those KNOWN.");
        HerbKey x = house(0, 1, 3);
        Due.well("none", x, x.twins(0), 0);
        x.lead(0, 2, true, 100);
        Due.well("one", x, x.twins(0), 0);
        x.lead(0, 2, false, 163);
        Due.well("two never come to", x, x.twins(0), 1);
        x.lead(0, 0, true, 105);
        Due.well("one of three is given", x, x.twins(0), 1);
        x.lead(0, 0, false, 106);
        Due.well("two of four are given", x, x.twins(0), 1);
        x.region(0, 1L << 5);
        Due.well("one of four is in the region", x, x.twins(0), 3);
        x.region(0, 0);
        Due.well("none is", x, x.twins(0), 6);
        x.lead(0, 2, false, 100);
        Due.well("three in four leads", x, x.twins(0), 3);
        x = house(0, 2, 1);
        for (int n = 0; n < 64; n++) {
            x.want(0, n, 0, 1);
            if (n % 21 == 0) Due.well("known ones alone", x, x.twins(0), n * (n + 1) / 2);
        }
        Due.well("all 64", x, x.twins(0), 2016);
    }
}
