import java.math.BigDecimal;
import java.math.BigInteger;
import java.util.ArrayList;
import java.util.Arrays;
import java.util.List;
import java.util.Random;
import java.util.TreeMap;
import java.util.TreeSet;

/**
 * Long runs of calls, drawn from fixed seeds, against a second program that does all the slow way:
 * exact decimals, every way walked, every set of answers tried, the whole house copied for undo().
 */
public final class ModelTest {
    private static final BigInteger LEAST = BigInteger.valueOf(Long.MIN_VALUE);
    private static final BigInteger MOST = BigInteger.valueOf(Long.MAX_VALUE);

    private static int wrong = 0;

    public static void main(String[] args) {
        int runs = args.length > 0 ? Integer.parseInt(args[0]) : 400;
        for (int seed = 0; seed < runs && wrong < 10; seed++) {
            new Run(seed).go();
            if (seed % 4 == 0) new Run(seed).measureAll();
        }
        System.out.println(wrong == 0 ? "all runs agree with the model" : wrong + " runs differ");
        if (wrong != 0) System.exit(1);
    }

    // ---- the model

    private static final class Measure {
        final int lack; // 0 a number, 1 none, 2 above, 3 below
        final BigDecimal value;
        Measure(int lack, BigDecimal value) { this.lack = lack; this.value = value; }
    }

    private static BigDecimal scaled(long n, int e) {
        BigDecimal two = new BigDecimal(2).pow(Math.abs(e));
        return e >= 0 ? new BigDecimal(n).multiply(two) : new BigDecimal(n).divide(two);
    }

    private static long whole(BigDecimal v) {
        return v.toBigInteger().min(MOST).max(LEAST).longValue();
    }

    private static final class Plate {
        List<Integer> states;
        List<Measure> measures;
        List<Integer> codes;
        Plate copy() {
            Plate p = new Plate();
            p.states = states == null ? null : new ArrayList<>(states);
            p.measures = measures == null ? null : new ArrayList<>(measures);
            p.codes = codes == null ? null : new ArrayList<>(codes);
            return p;
        }
        List<?> line(int kind) { return kind == 0 ? states : kind == 1 ? measures : codes; }
    }

    private static final class Guide {
        int kind;
        List<int[]> couplets = new ArrayList<>();
        List<int[]> leads = new ArrayList<>();
        List<Integer> weights = new ArrayList<>();
        int[][] wants = new int[64][40];
        long region = -1;
        int slack = 0;
        int first = -1;
        int second = -1;
        Guide(int kind) {
            this.kind = kind;
            for (int[] w : wants) Arrays.fill(w, 2);
        }
        Guide copy() {
            Guide g = new Guide(kind);
            g.couplets = new ArrayList<>(couplets);
            for (int[] l : leads) g.leads.add(l.clone());
            g.weights = new ArrayList<>(weights);
            for (int n = 0; n < 64; n++) g.wants[n] = wants[n].clone();
            g.region = region; g.slack = slack; g.first = first; g.second = second;
            return g;
        }
        boolean branching() { return kind <= 1; }
        boolean table() { return kind == 2 || kind == 3; }
        boolean known(int name) {
            for (int c = 0; c < couplets.size(); c++) if (wants[name][c] != 2) return true;
            return false;
        }
        boolean inRegion(int name) { return kind != 1 || (region >>> name & 1) == 1; }
    }

    private static final class House {
        List<Plate> sheets = new ArrayList<>();
        List<Guide> keys = new ArrayList<>();
        House copy() {
            House h = new House();
            for (Plate p : sheets) h.sheets.add(p == null ? null : p.copy());
            for (Guide g : keys) h.keys.add(g == null ? null : g.copy());
            return h;
        }
    }

    private static final class Model {
        House h = new House();
        List<House> past = new ArrayList<>();
        int status = 0;
        List<int[]> shown = new ArrayList<>();
        int shownKey, shownSheet;
        int[] proof; // source, sheet, name
        List<Integer> entries = new ArrayList<>();

        int bad(int why) { status = why; return -1; }
        int ok(int v) { status = 0; return v; }
        Plate s(int i) { return i >= 0 && i < h.sheets.size() ? h.sheets.get(i) : null; }
        Guide k(int i) { return i >= 0 && i < h.keys.size() ? h.keys.get(i) : null; }
        void save() { past.add(h.copy()); }
        boolean name(int n) { return n >= 0 && n <= 63; }
        boolean couplet(Guide g, int c) { return c >= 0 && c < g.couplets.size(); }

        // sheets
        int sheet() {
            if (h.sheets.size() == 40) return bad(8);
            save(); h.sheets.add(new Plate()); return ok(h.sheets.size() - 1);
        }
        int lose(int i) {
            if (s(i) == null) return bad(2);
            save(); h.sheets.set(i, null);
            return ok((int) h.sheets.stream().filter(x -> x != null).count());
        }
        int row(int i, int kind, int n) {
            if (s(i) == null) return bad(2);
            if (kind < 0 || kind > 2) return bad(3);
            if (n < -1 || n > 40) return bad(5);
            save();
            List<Integer> ints = n < 0 ? null : new ArrayList<>();
            List<Measure> ms = n < 0 ? null : new ArrayList<>();
            for (int j = 0; j < n; j++) { ints.add(0); ms.add(new Measure(0, BigDecimal.ZERO)); }
            if (kind == 0) s(i).states = ints; else if (kind == 1) s(i).measures = ms; else s(i).codes = ints;
            return ok(n);
        }
        int placeWhy(int i, int kind, int place) {
            if (s(i) == null) return 2;
            if (kind < 0 || kind > 2 || s(i).line(kind) == null) return 3;
            return place < 0 || place >= s(i).line(kind).size() ? 3 : 0;
        }
        int state(int i, int place, int v) {
            int w = placeWhy(i, 0, place);
            if (w != 0) return bad(w);
            if (v < -128 || v > 127) return bad(5);
            save(); s(i).states.set(place, v); return ok(v);
        }
        int measure(int i, int place, int n, int e) {
            int w = placeWhy(i, 1, place);
            if (w != 0) return bad(w);
            if (n < -16777216 || n > 16777216 || e < -20 || e > 100) return bad(5);
            save(); s(i).measures.set(place, new Measure(0, scaled(n, e))); return ok(n);
        }
        int lack(int i, int place, int how) {
            int w = placeWhy(i, 1, place);
            if (w != 0) return bad(w);
            if (how < 0 || how > 2) return bad(5);
            save(); s(i).measures.set(place, new Measure(how + 1, null)); return ok(how);
        }
        int code(int i, int place, int v) {
            int w = placeWhy(i, 2, place);
            if (w != 0) return bad(w);
            if (v < 0 || v > 65535) return bad(5);
            save(); s(i).codes.set(place, v); return ok(v);
        }
        long peek(Plate p, int kind, int place) {
            if (kind == 0) return p.states.get(place);
            if (kind == 2) return p.codes.get(place);
            Measure m = p.measures.get(place);
            if (m.lack == 1) return 0;
            if (m.lack == 2) return Long.MAX_VALUE;
            if (m.lack == 3) return Long.MIN_VALUE;
            return whole(m.value.multiply(new BigDecimal(8)));
        }
        long read(int i, int kind, int place) {
            int w = placeWhy(i, kind, place);
            if (w != 0) return bad(w);
            status = 0;
            return peek(s(i), kind, place);
        }
        int merge(int a, int b) {
            if (s(a) == null || s(b) == null) return bad(2);
            save();
            Plate x = s(a), y = s(b);
            int came = 0;
            if (x.states == null && y.states != null) { x.states = new ArrayList<>(y.states); came++; }
            if (x.codes == null && y.codes != null) { x.codes = new ArrayList<>(y.codes); came++; }
            if (y.measures != null) {
                if (x.measures == null) { x.measures = new ArrayList<>(y.measures); came++; }
                else for (int j = 0; j < x.measures.size(); j++) {
                    if (x.measures.get(j).lack != 1 || j >= y.measures.size()) continue;
                    if (y.measures.get(j).lack == 1) continue;
                    x.measures.set(j, y.measures.get(j)); came++;
                }
            }
            return ok(came);
        }

        // keys
        int key(int kind) {
            if (kind < 0 || kind > 4) return bad(5);
            if (h.keys.size() == 40) return bad(8);
            save(); h.keys.add(new Guide(kind)); return ok(h.keys.size() - 1);
        }
        int drop(int i) {
            if (k(i) == null) return bad(1);
            save(); h.keys.set(i, null);
            return ok((int) h.keys.stream().filter(x -> x != null).count());
        }
        void collect(int i, TreeSet<Integer> all) {
            if (k(i) == null || !all.add(i)) return;
            Guide g = k(i);
            if (g.kind == 4) { collect(g.first, all); collect(g.second, all); }
            for (int[] c : g.couplets) if (c[0] >= 7) collect(c[1], all);
        }
        boolean asks(int from, int key) {
            TreeSet<Integer> all = new TreeSet<>();
            collect(from, all);
            return all.contains(key);
        }
        boolean in(long v, long a, long b) { return v >= a && v <= b; }
        boolean told(int ask, int p, int q, int r) {
            if (!in(p, -1, 60)) return false;
            switch (ask) {
                case 0: return in(q, -128, 127) && r == 0;
                case 1: return in(q, 0, 65535) && r == 0;
                case 2: return in(q, -16777216, 16777216) && in(r, -20, 100);
                case 3: return in(r, -20, 100);
                case 4: return in(q, 1, 16777216) && in(r, -20, 100);
                case 5: return in(q, 1, 1000000) && in(r, -1000000, 1000000);
                case 6: return in(r, 0, 32);
                case 7: return in(q, 0, 63) && r == 0;
                case 8: return in(q, 0, 63) && in(r, -400, 400);
                default: return false;
            }
        }
        int addCouplet(int i, int ask, int p, int q, int r) {
            if (k(i) == null) return bad(1);
            if (k(i).kind == 4) return bad(4);
            if (!told(ask, p, q, r)) return bad(5);
            if (k(i).couplets.size() == 40) return bad(8);
            if (ask >= 7 && asks(p, i)) return bad(6);
            save();
            k(i).couplets.add(new int[] {ask, p, q, r});
            k(i).leads.add(new int[] {-1, -1});
            k(i).weights.add(1);
            return ok(k(i).couplets.size() - 1);
        }
        boolean leadsTo(Guide g, int from, int to) {
            if (from < 0 || from >= 100) return false;
            if (from == to) return true;
            return leadsTo(g, g.leads.get(from)[0], to) || leadsTo(g, g.leads.get(from)[1], to);
        }
        int lead(int i, int c, boolean yes, int to) {
            if (k(i) == null) return bad(1);
            Guide g = k(i);
            if (!g.branching()) return bad(4);
            if (!couplet(g, c) || !(to == -1 || couplet(g, to) || in(to, 100, 163))) return bad(3);
            if (leadsTo(g, to, c)) return bad(6);
            save(); k(i).leads.get(c)[yes ? 1 : 0] = to; return ok(to);
        }
        int join(int i, int a, int b) {
            if (k(i) == null || k(a) == null || k(b) == null) return bad(1);
            if (k(i).kind != 4) return bad(4);
            if (asks(a, i) || asks(b, i)) return bad(6);
            save(); k(i).first = a; k(i).second = b;
            TreeSet<Integer> all = new TreeSet<>();
            collect(i, all);
            return ok(all.size() - 1);
        }
        int region(int i, long names) {
            if (k(i) == null) return bad(1);
            if (k(i).kind != 1) return bad(4);
            save(); k(i).region = names;
            int n = 0;
            for (int j = 0; j < 64; j++) if ((names >>> j & 1) == 1) n++;
            return ok(n);
        }
        int want(int i, int name, int c, int w) {
            if (k(i) == null) return bad(1);
            if (!k(i).table()) return bad(4);
            if (!name(name) || !couplet(k(i), c)) return bad(3);
            if (w < 0 || w > 2) return bad(5);
            save(); k(i).wants[name][c] = w; return ok(w);
        }
        int weigh(int i, int c, int w) {
            if (k(i) == null) return bad(1);
            if (k(i).kind != 3) return bad(4);
            if (!couplet(k(i), c)) return bad(3);
            if (w < 0 || w > 9) return bad(5);
            save(); k(i).weights.set(c, w); return ok(w);
        }
        int slack(int i, int n) {
            if (k(i) == null) return bad(1);
            if (k(i).kind != 3) return bad(4);
            if (n < 0 || n > 99) return bad(5);
            save(); k(i).slack = n; return ok(n);
        }
        int learn(int i, int sh, int name) {
            if (k(i) == null) return bad(1);
            if (!k(i).table()) return bad(4);
            if (!name(name)) return bad(3);
            int[] a = answers(i, sh);
            save();
            int n = 0;
            for (int c = 0; c < a.length; c++) { k(i).wants[name][c] = a[c]; if (a[c] != 2) n++; }
            return ok(n);
        }

        // answers: 0, 1, or 10 + cause
        int reply(int i, int sh, int c) {
            int[] q = k(i).couplets.get(c);
            Plate p = s(sh);
            if (p == null) return 11;
            if (q[0] == 7) {
                if (k(q[1]) == null) return 16;
                Integer u = gives(q[1], sh).get(q[2]);
                return u == null ? 0 : u == 0 ? 1 : 18;
            }
            if (q[0] == 8) {
                if (k(q[1]) == null) return 16;
                if (k(q[1]).kind != 3) return 17;
                return tally(q[1], sh, q[2]) >= q[3] ? 1 : 0;
            }
            int kind = q[0] == 0 ? 0 : q[0] == 1 ? 2 : 1;
            if (p.line(kind) == null) return 12;
            if (q[1] < 0 || q[1] >= p.line(kind).size()) return 13;
            if (kind == 0) return p.states.get(q[1]) == q[2] ? 1 : 0;
            if (kind == 2) return p.codes.get(q[1]) == q[2] ? 1 : 0;
            Measure m = p.measures.get(q[1]);
            if (m.lack == 1) return 14;
            if (m.lack > 1) return 15;
            boolean holds;
            switch (q[0]) {
                case 2: holds = m.value.compareTo(scaled(q[2], q[3])) < 0; break;
                case 3: holds = m.value.compareTo(scaled(q[2], q[3])) <= 0; break;
                case 4: holds = m.value.remainder(scaled(q[2], q[3])).signum() == 0; break;
                case 5: holds = m.value.remainder(new BigDecimal(q[2])).compareTo(new BigDecimal(q[3])) >= 0; break;
                default: holds = new BigDecimal(whole(m.value)).compareTo(scaled(q[2], q[3])) >= 0; break;
            }
            return holds ? 1 : 0;
        }
        int[] answers(int i, int sh) {
            int[] a = new int[k(i).couplets.size()];
            for (int c = 0; c < a.length; c++) a[c] = Math.min(2, reply(i, sh, c));
            return a;
        }
        int tally(int i, int sh, int name) {
            int[] a = answers(i, sh);
            int sum = 0;
            for (int c = 0; c < a.length; c++) {
                int w = k(i).wants[name][c];
                if (w == 2 || a[c] == 2) continue;
                sum += a[c] == w ? k(i).weights.get(c) : -k(i).weights.get(c);
            }
            return sum;
        }

        /** All ways to names: each a list of entries behind the name; YES goes first. */
        void ways(Guide g, int[] a, int at, List<Integer> way, List<List<Integer>> all) {
            if (at == -1) return;
            if (at >= 100) {
                List<Integer> done = new ArrayList<>(way);
                done.add(0, at - 100);
                all.add(done);
                return;
            }
            for (int take = 1; take >= 0; take--) {
                if (a[at] != 2 && a[at] != take) continue;
                way.add(4 * at + (a[at] == 2 ? 2 + take : take));
                ways(g, a, g.leads.get(at)[take], way, all);
                way.remove(way.size() - 1);
            }
        }
        List<List<Integer>> waysOf(Guide g, int[] a) {
            List<List<Integer>> all = new ArrayList<>();
            if (a.length > 0) ways(g, a, 0, new ArrayList<>(), all);
            return all;
        }
        int unknownsOf(List<Integer> way) {
            int n = 0;
            for (int j = 1; j < way.size(); j++) if (way.get(j) % 4 >= 2) n++;
            return n;
        }
        TreeMap<Integer, Integer> givesBy(Guide g, int[] a) {
            TreeMap<Integer, Integer> out = new TreeMap<>();
            if (g.branching()) {
                for (List<Integer> w : waysOf(g, a)) {
                    if (g.inRegion(w.get(0))) out.merge(w.get(0), unknownsOf(w), Math::min);
                }
                return out;
            }
            for (int n = 0; n < 64; n++) {
                if (!g.known(n)) continue;
                int u = 0, off = 0;
                boolean amiss = false;
                for (int c = 0; c < a.length; c++) {
                    int w = g.wants[n][c];
                    if (w == 2) continue;
                    if (a[c] == 2) u++;
                    else if (a[c] != w) { amiss = true; off += g.weights.get(c); }
                }
                if (g.kind == 3 ? off <= g.slack : !amiss) out.put(n, u);
            }
            return out;
        }
        TreeMap<Integer, Integer> gives(int i, int sh) {
            Guide g = k(i);
            if (g == null) return new TreeMap<>();
            if (g.kind != 4) return givesBy(g, answers(i, sh));
            TreeMap<Integer, Integer> out = gives(g.first, sh);
            gives(g.second, sh).forEach((n, u) -> out.merge(n, u, Math::min));
            return out;
        }
        int ask(int i, int sh, int c) {
            if (k(i) == null) return bad(1);
            if (!couplet(k(i), c)) return bad(3);
            return ok(Math.min(2, reply(i, sh, c)));
        }
        int cause(int i, int sh, int c) {
            if (k(i) == null) return bad(1);
            if (!couplet(k(i), c)) return bad(3);
            int r = reply(i, sh, c);
            return ok(r >= 10 ? r - 10 : 0);
        }
        int names(int i, int sh) {
            if (k(i) == null) return bad(1);
            shown = new ArrayList<>();
            shownKey = i; shownSheet = sh;
            gives(i, sh).forEach((n, u) -> shown.add(new int[] {n, u}));
            shown.sort((x, y) -> x[1] != y[1] ? x[1] - y[1] : x[0] - y[0]);
            return ok(shown.size());
        }
        int nameAt(int i, int what) {
            return i < 0 || i >= shown.size() ? bad(3) : ok(shown.get(i)[what]);
        }
        int pick(int i) {
            if (i < 0 || i >= shown.size()) return bad(3);
            int name = shown.get(i)[0];
            if (k(shownKey) == null || !gives(shownKey, shownSheet).containsKey(name)) return bad(7);
            int at = shownKey;
            while (k(at).kind == 4) {
                Integer one = gives(k(at).first, shownSheet).get(name);
                Integer two = gives(k(at).second, shownSheet).get(name);
                at = one != null && (two == null || one <= two) ? k(at).first : k(at).second;
            }
            Guide g = k(at);
            int[] a = answers(at, shownSheet);
            entries = new ArrayList<>();
            if (g.branching()) {
                List<Integer> best = null;
                for (List<Integer> w : waysOf(g, a)) {
                    if (w.get(0) == name && (best == null || unknownsOf(w) < unknownsOf(best))) best = w;
                }
                entries.addAll(best.subList(1, best.size()));
            } else {
                for (int c = 0; c < a.length; c++) {
                    if (g.wants[name][c] != 2) entries.add(4 * c + (a[c] == 2 ? 2 + g.wants[name][c] : a[c]));
                }
            }
            proof = new int[] {at, shownSheet, name};
            return ok(entries.size());
        }
        int proofAt(int j) {
            if (proof == null) return bad(7);
            if (j < -3 || j >= entries.size()) return bad(3);
            return ok(j >= 0 ? entries.get(j) : proof[-1 - j]);
        }
        int forge(int j, int v) {
            if (proof == null) return bad(7);
            if (j < 0 || j >= entries.size()) return bad(3);
            if (v < 0 || v > 255) return bad(5);
            entries.set(j, v); return ok(v);
        }
        int check() {
            if (proof == null) return bad(7);
            return ok(right() ? 1 : 0);
        }
        boolean right() {
            Guide g = k(proof[0]);
            if (g == null || g.kind == 4) return false;
            int[] a = answers(proof[0], proof[1]);
            for (int e : entries) {
                if (e / 4 >= a.length) return false;
                if (Math.min(2, e % 4) != a[e / 4]) return false;
            }
            if (g.branching()) {
                int at = 0;
                for (int e : entries) {
                    if (at != e / 4) return false;
                    at = g.leads.get(at)[e % 2];
                }
                return !entries.isEmpty() && at == 100 + proof[2] && g.inRegion(proof[2]);
            }
            List<Integer> wanted = new ArrayList<>();
            for (int c = 0; c < a.length; c++) if (g.wants[proof[2]][c] != 2) wanted.add(c);
            List<Integer> have = new ArrayList<>();
            for (int e : entries) have.add(e / 4);
            if (wanted.isEmpty() || !wanted.equals(have)) return false;
            int off = 0;
            for (int e : entries) {
                if (e % 2 == g.wants[proof[2]][e / 4]) continue;
                if (e % 4 >= 2 || g.kind == 2) return false;
                off += g.weights.get(e / 4);
            }
            return off <= g.slack || g.kind == 2;
        }
        int sure(int i, int sh) {
            if (k(i) == null) return bad(1);
            TreeMap<Integer, Integer> g = gives(i, sh);
            return ok(g.size() == 1 && g.firstEntry().getValue() == 0 ? g.firstKey() : -1);
        }
        int score(int i, int sh, int name) {
            if (k(i) == null) return bad(1);
            if (k(i).kind != 3) return bad(4);
            if (!name(name)) return bad(3);
            return ok(tally(i, sh, name));
        }
        int next(int i, int sh) {
            if (k(i) == null) return bad(1);
            if (k(i).kind == 4) return bad(4);
            int[] a = answers(i, sh);
            int best = -1, least = 1000;
            for (int c = 0; c < a.length; c++) {
                if (a[c] != 2) continue;
                int most = 0;
                for (int v = 0; v < 2; v++) {
                    int[] b = a.clone();
                    b[c] = v;
                    most = Math.max(most, givesBy(k(i), b).size());
                }
                if (most < least) { least = most; best = c; }
            }
            return best < 0 ? bad(7) : ok(best);
        }
        int compare(int i, int x, int y) {
            if (k(i) == null) return bad(1);
            if (k(i).kind == 4) return bad(4);
            int[] a = answers(i, x), b = answers(i, y);
            int n = 0;
            for (int c = 0; c < a.length; c++) if (a[c] + b[c] == 1) n++;
            return ok(n);
        }
        int unreached(int i) {
            if (k(i) == null) return bad(1);
            Guide g = k(i);
            if (!g.branching()) return bad(4);
            int n = 0;
            for (int c = 0; c < g.couplets.size(); c++) if (!leadsTo(g, 0, c)) n++;
            return ok(n);
        }
        int longest(Guide g, int at) {
            if (at < 0 || at >= 100) return 0;
            return 1 + Math.max(longest(g, g.leads.get(at)[0]), longest(g, g.leads.get(at)[1]));
        }
        int depth(int i) {
            if (k(i) == null) return bad(1);
            if (!k(i).branching()) return bad(4);
            return ok(k(i).couplets.isEmpty() ? 0 : longest(k(i), 0));
        }
        /** apart[a][b] by trying all answers, which is done for up to 9 couplets. */
        boolean[][] apart(Guide g) {
            int n = g.couplets.size();
            boolean[][] apart = new boolean[64][64];
            for (int bits = 0; bits < 1 << n; bits++) {
                int[] a = new int[n];
                for (int c = 0; c < n; c++) a[c] = bits >> c & 1;
                TreeMap<Integer, Integer> given = givesBy(g, a);
                for (int x : given.keySet()) for (int y = 0; y < 64; y++) {
                    if (!given.containsKey(y)) { apart[x][y] = true; apart[y][x] = true; }
                }
            }
            return apart;
        }
        int parted(int i, int x, int y) {
            if (k(i) == null) return bad(1);
            if (k(i).kind == 4) return bad(4);
            if (!name(x) || !name(y)) return bad(3);
            return ok(apart(k(i))[x][y] ? 1 : 0);
        }
        int twins(int i) {
            if (k(i) == null) return bad(1);
            Guide g = k(i);
            if (g.kind == 4) return bad(4);
            TreeSet<Integer> has = new TreeSet<>();
            if (g.branching()) for (int[] l : g.leads) for (int to : l) if (to >= 100) has.add(to - 100);
            if (g.table()) for (int n = 0; n < 64; n++) if (g.known(n)) has.add(n);
            boolean[][] apart = apart(g);
            int pairs = 0;
            for (int x : has) for (int y : has) if (x < y && !apart[x][y]) pairs++;
            return ok(pairs);
        }
        int parts(int i, int x, int y) {
            if (k(i) == null) return bad(1);
            if (!k(i).table()) return bad(4);
            if (!name(x) || !name(y)) return bad(3);
            int n = 0;
            for (int c = 0; c < 40; c++) if (k(i).wants[x][c] + k(i).wants[y][c] == 1) n++;
            return ok(n);
        }
        int trace(int i, int act) {
            if (k(i) == null) return bad(1);
            if (act < 0 || act > 3) return bad(3);
            int[][] of = {{1, 2, 3, 3, 5}, {6, 6, 3, 4, 6}, {0, 0, 0, 4, 6}, {0, 0, 0, 0, 5}};
            return ok(of[act][k(i).kind]);
        }
        int undo() {
            if (past.isEmpty()) return bad(7);
            h = past.remove(past.size() - 1);
            return ok(past.size());
        }
        long digest() {
            List<Long> x = new ArrayList<>();
            x.add((long) h.sheets.size());
            for (Plate p : h.sheets) {
                x.add(p == null ? 0L : 1L);
                for (int kind = 0; p != null && kind < 3; kind++) {
                    int n = p.line(kind) == null ? -1 : p.line(kind).size();
                    x.add((long) n);
                    for (int j = 0; j < n; j++) x.add(peek(p, kind, j));
                }
            }
            x.add((long) h.keys.size());
            for (Guide g : h.keys) {
                x.add(g == null ? -1L : (long) g.kind);
                if (g == null) continue;
                x.add((long) g.couplets.size());
                for (int c = 0; c < g.couplets.size(); c++) {
                    for (int v : g.couplets.get(c)) x.add((long) v);
                    if (g.branching()) for (int v : g.leads.get(c)) x.add((long) v);
                    if (g.kind == 3) x.add((long) g.weights.get(c));
                }
                if (g.kind == 1) x.add(g.region);
                for (int n = 0; g.table() && n < 64; n++) {
                    for (int c = 0; c < g.couplets.size(); c++) x.add((long) g.wants[n][c]);
                }
                if (g.kind == 3) x.add((long) g.slack);
                if (g.kind == 4) { x.add((long) g.first); x.add((long) g.second); }
            }
            long d = 7;
            for (long v : x) d = d * 31 + v;
            return d;
        }
    }

    // ---- the runs

    private static final class Run {
        final int seed;
        final Random random;
        final HerbKey x = new HerbKey();
        final Model m = new Model();
        final int mostKeys;
        final int mostCouplets;
        final int names;
        final List<String> told = new ArrayList<>();
        int pending = -1;

        Run(int seed) {
            this.seed = seed;
            random = new Random(seed * 7919L + 13);
            mostKeys = seed % 4 == 0 ? 2 : 3 + seed % 6;
            mostCouplets = seed % 3 == 0 ? 4 : 7;
            names = seed % 5 == 0 ? 64 : 6;
        }

        int below(int n) { return random.nextInt(n); }
        /** Now and then a number that is out of all bounds. */
        int odd(int usual) {
            if (below(40) != 0) return usual;
            int[] strange = {-1, -2, 40, 41, 61, 64, 100, 164, 1000001, 16777217, Integer.MIN_VALUE, Integer.MAX_VALUE};
            return strange[below(strange.length)];
        }
        int sheetNo() {
            int i = below(Math.max(1, m.h.sheets.size()));
            if (m.s(i) == null) i = below(Math.max(1, m.h.sheets.size()));
            return odd(i);
        }
        int keyNo() { return odd(below(Math.max(1, m.h.keys.size()))); }
        int keyOf(int... kinds) {
            for (int t = 0; t < 12; t++) {
                int i = below(Math.max(1, m.h.keys.size()));
                if (m.k(i) == null) continue;
                for (int kind : kinds) if (m.k(i).kind == kind) return i;
            }
            return keyNo();
        }
        int coupletOf(int key) {
            int n = m.k(key) == null ? 0 : m.k(key).couplets.size();
            return odd(below(Math.max(1, n)));
        }
        int aName() { return odd(below(names)); }
        int power() { return odd(below(3) == 0 ? below(121) - 20 : below(12) - 6); }
        int number(int most) {
            int pick = below(4);
            if (pick == 0) return odd(below(9) - 4);
            if (pick == 1) return odd((below(2) * 2 - 1) * (1 << below(25)));
            if (pick == 2) return odd(below(2 * most + 1) - most);
            return odd(below(41) - 20);
        }

        void due(String call, long got, long want) {
            told.add(call + " = " + got);
            if (got != want) fail(call + " answered " + got + ", due is " + want);
            else if (x.status() != m.status) fail(call + " left status " + x.status() + ", due is " + m.status);
            else if (x.changes() != m.past.size()) fail(call + " left changes " + x.changes());
        }
        boolean failed = false;
        void fail(String what) {
            if (failed) return;
            failed = true;
            wrong++;
            System.out.println("seed " + seed + ", call " + told.size() + ": " + what);
            int from = Math.max(0, told.size() - 60);
            for (String t : told.subList(from, told.size())) System.out.println("    " + t);
        }

        void go() {
            for (int call = 0; call < 512 && !failed; call++) {
                try {
                    step();
                } catch (RuntimeException e) {
                    fail("threw " + e);
                    e.printStackTrace(System.out);
                }
                if (!failed && call % 16 == 15 && x.digest() != m.digest()) fail("digest differs");
            }
        }

        /** Ten measures against twenty-five couplets, each with the answer by exact decimals. */
        void measureAll() {
            due("sheet()", x.sheet(), m.sheet());
            due("row(0,1,10)", x.row(0, 1, 10), m.row(0, 1, 10));
            due("key(2)", x.key(2), m.key(2));
            int[] ns = new int[10], es = new int[10];
            for (int i = 0; i < 10; i++) {
                ns[i] = number(16777216);
                es[i] = power();
                due("measure(0," + i + "," + ns[i] + "," + es[i] + ")", x.measure(0, i, ns[i], es[i]), m.measure(0, i, ns[i], es[i]));
                due("read(0,1," + i + ")", x.read(0, 1, i), m.read(0, 1, i));
            }
            for (int c = 0; c < 25; c++) {
                int ask = 2 + c % 5, p = below(10), q = number(16777216), r = power();
                boolean near = below(3) == 0;
                if (near) { q = ns[p] + below(3) - 1; r = es[p]; }
                if (ask == 4) q = near ? Math.max(1, Math.abs(ns[p]) / (1 + below(4))) : Math.max(1, Math.abs(q));
                if (ask == 5) { q = 1 + below(below(2) == 0 ? 12 : 1000000); r = below(q + 1) * (below(2) * 2 - 1); }
                if (ask == 6) { q = near ? ns[p] : random.nextInt(); r = near && es[p] >= 0 ? es[p] : below(33); }
                due("couplet(0," + ask + "," + p + "," + q + "," + r + ")", x.couplet(0, ask, p, q, r), m.addCouplet(0, ask, p, q, r));
            }
            for (int c = 0; c < 25; c++) {
                due("ask(0,0," + c + ")", x.ask(0, 0, c), m.ask(0, 0, c));
            }
        }

        void step() {
            int n = below(100);
            if (pending >= 0) { proofStep(); return; }
            if (m.h.sheets.size() < 2) {
                due("sheet()", x.sheet(), m.sheet());
                int s = m.h.sheets.size() - 1;
                for (int kind = 0; kind < 3; kind++) {
                    int len = below(8) == 0 ? -1 : 2 + below(4);
                    due("row(" + s + "," + kind + "," + len + ")", x.row(s, kind, len), m.row(s, kind, len));
                }
                return;
            }
            if (m.h.keys.size() < mostKeys && below(3) == 0 || m.h.keys.isEmpty()) {
                int kind = odd(below(5));
                due("key(" + kind + ")", x.key(kind), m.key(kind));
                return;
            }
            if (n < 22) sheetStep();
            else if (n < 58) keyStep();
            else if (n < 62) due("undo()", x.undo(), m.undo());
            else if (n < 80) askStep();
            else lookStep();
        }

        void sheetStep() {
            int s = sheetNo(), place = odd(below(4)), n = below(24);
            if (n == 0 && below(6) == 0) due("sheet()", x.sheet(), m.sheet());
            else if (n == 1 && below(12) == 0) due("lose(" + s + ")", x.lose(s), m.lose(s));
            else if (n < 4) {
                int kind = odd(below(3)), len = odd(below(4) == 0 ? below(3) - 1 : 2 + below(4));
                due("row(" + s + "," + kind + "," + len + ")", x.row(s, kind, len), m.row(s, kind, len));
            } else if (n < 9) {
                int v = odd(below(3));
                due("state(" + s + "," + place + "," + v + ")", x.state(s, place, v), m.state(s, place, v));
            } else if (n < 14) {
                int v = number(16777216), e = power();
                due("measure(" + s + "," + place + "," + v + "," + e + ")", x.measure(s, place, v, e), m.measure(s, place, v, e));
            } else if (n < 16) {
                int how = odd(below(3));
                due("lack(" + s + "," + place + "," + how + ")", x.lack(s, place, how), m.lack(s, place, how));
            } else if (n < 18) {
                int v = odd(below(2));
                due("code(" + s + "," + place + "," + v + ")", x.code(s, place, v), m.code(s, place, v));
            } else if (n < 22) {
                int kind = odd(below(3));
                due("read(" + s + "," + kind + "," + place + ")", x.read(s, kind, place), m.read(s, kind, place));
            } else {
                int b = sheetNo();
                due("merge(" + s + "," + b + ")", x.merge(s, b), m.merge(s, b));
            }
        }

        void addCouplet() {
            int k = keyOf(0, 1, 2, 3);
            if (m.k(k) != null && m.k(k).couplets.size() >= mostCouplets) return;
            int ask = odd(below(9)), p = odd(below(5)), q, r;
            switch (ask) {
                case 0: q = odd(below(3)); r = odd(0); break;
                case 1: q = odd(below(2)); r = odd(0); break;
                case 5: q = odd(below(2) == 0 ? 1 + below(9) : 1 + below(1000000)); r = odd(below(9) - 4); break;
                case 6: q = below(3) == 0 ? random.nextInt() : number(1000); r = odd(below(33)); break;
                case 7: p = keyNo(); q = aName(); r = odd(0); break;
                case 8: p = below(2) == 0 ? keyOf(3) : keyNo(); q = aName(); r = odd(below(9) - 4); break;
                case 4: q = Math.max(1, Math.abs(number(16777216) % 16777216)); r = power(); break;
                case 3: q = below(4) == 0 ? random.nextInt() : number(16777216); r = power(); break;
                default: q = number(16777216); r = power(); break;
            }
            due("couplet(" + k + "," + ask + "," + p + "," + q + "," + r + ")", x.couplet(k, ask, p, q, r), m.addCouplet(k, ask, p, q, r));
        }

        void keyStep() {
            int n = below(40);
            if (n < 12) { addCouplet(); return; }
            if (n < 22) {
                int k = keyOf(0, 1), c = coupletOf(k), to = below(seed % 2 == 0 ? 3 : 2) == 0 ? coupletOf(k) : 100 + aName();
                if (below(20) == 0) to = -1;
                boolean yes = random.nextBoolean();
                due("lead(" + k + "," + c + "," + yes + "," + to + ")", x.lead(k, c, yes, to), m.lead(k, c, yes, to));
            } else if (n < 31) {
                int k = keyOf(2, 3), name = aName(), c = coupletOf(k), w = odd(below(3));
                due("want(" + k + "," + name + "," + c + "," + w + ")", x.want(k, name, c, w), m.want(k, name, c, w));
            } else if (n < 33) {
                int k = keyOf(4), a = keyNo(), b = keyNo();
                due("join(" + k + "," + a + "," + b + ")", x.join(k, a, b), m.join(k, a, b));
            } else if (n < 34) {
                int k = keyOf(1);
                long names = below(3) == 0 ? random.nextLong() : ~(1L << below(6));
                due("region(" + k + "," + names + ")", x.region(k, names), m.region(k, names));
            } else if (n < 36) {
                int k = keyOf(3), c = coupletOf(k), w = odd(below(10));
                due("weigh(" + k + "," + c + "," + w + ")", x.weigh(k, c, w), m.weigh(k, c, w));
            } else if (n < 38) {
                int k = keyOf(3), s = odd(below(2) == 0 ? below(6) : below(60));
                due("slack(" + k + "," + s + ")", x.slack(k, s), m.slack(k, s));
            } else if (n < 39) {
                int k = keyOf(2, 3), s = sheetNo(), name = aName();
                due("learn(" + k + "," + s + "," + name + ")", x.learn(k, s, name), m.learn(k, s, name));
            } else if (below(5) == 0) {
                int k = keyNo();
                due("drop(" + k + ")", x.drop(k), m.drop(k));
            }
        }

        void askStep() {
            int n = below(30), k = keyNo(), s = sheetNo(), c = coupletOf(k);
            if (n < 4) due("ask(" + k + "," + s + "," + c + ")", x.ask(k, s, c), m.ask(k, s, c));
            else if (n < 8) due("cause(" + k + "," + s + "," + c + ")", x.cause(k, s, c), m.cause(k, s, c));
            else if (n < 18) {
                due("names(" + k + "," + s + ")", x.names(k, s), m.names(k, s));
                for (int i = -1; i <= m.shown.size() && !failed; i++) {
                    due("name(" + i + ")", x.name(i), m.nameAt(i, 0));
                    due("unknowns(" + i + ")", x.unknowns(i), m.nameAt(i, 1));
                }
            } else if (n < 24) {
                int i = odd(below(Math.max(1, m.shown.size())));
                due("pick(" + i + ")", x.pick(i), m.pick(i));
                if (m.status == 0) pending = -3 + 4;
            } else if (n < 26) due("sure(" + k + "," + s + ")", x.sure(k, s), m.sure(k, s));
            else if (n < 28) {
                int w = keyOf(3), name = aName();
                due("score(" + w + "," + s + "," + name + ")", x.score(w, s, name), m.score(w, s, name));
            } else pending = 1;
        }

        /** Looks at the proof, spoils it and mends it. */
        void proofStep() {
            pending = -1;
            for (int j = -4; j <= m.entries.size() && !failed; j++) {
                due("proof(" + j + ")", x.proof(j), m.proofAt(j));
            }
            due("check()", x.check(), m.check());
            int j = odd(below(Math.max(1, m.entries.size()))), v = below(4) == 0 ? odd(below(256)) : below(32);
            if (below(2) == 0) {
                due("forge(" + j + "," + v + ")", x.forge(j, v), m.forge(j, v));
                due("check()", x.check(), m.check());
            }
        }

        void lookStep() {
            int n = below(27), k = keyNo(), s = sheetNo();
            if (n < 4) due("next(" + k + "," + s + ")", x.next(k, s), m.next(k, s));
            else if (n < 7) {
                int b = sheetNo();
                due("compare(" + k + "," + s + "," + b + ")", x.compare(k, s, b), m.compare(k, s, b));
            } else if (n < 9) { k = keyOf(0, 1); due("unreached(" + k + ")", x.unreached(k), m.unreached(k)); }
            else if (n < 11) { k = keyOf(0, 1); due("depth(" + k + ")", x.depth(k), m.depth(k)); }
            else if (n < 17) {
                if (below(2) == 0) k = keyOf(3);
                int a = aName(), b = aName();
                due("parted(" + k + "," + a + "," + b + ")", x.parted(k, a, b), m.parted(k, a, b));
            } else if (n < 20) due("twins(" + k + ")", x.twins(k), m.twins(k));
            else if (n < 22) {
                k = keyOf(2, 3);
                int a = aName(), b = aName();
                due("parts(" + k + "," + a + "," + b + ")", x.parts(k, a, b), m.parts(k, a, b));
            } else if (n < 24) {
                int act = odd(below(4));
                due("trace(" + k + "," + act + ")", x.trace(k, act), m.trace(k, act));
            } else due("check()", x.check(), m.check());
        }
    }
}
