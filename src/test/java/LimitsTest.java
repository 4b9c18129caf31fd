import java.util.Random;

/** The greatest houses that the document lets, where a plain search would never end, and misuse. */
public final class LimitsTest {
    private static int wrong = 0;

    private static void is(String what, long got, long due) {
        if (got == due) return;
        wrong++;
        System.out.println(what + " answered " + got + ", due is " + due);
    }

    public static void main(String[] args) {
        fortyJoined();
        fortyAsking();
        manyWays();
        chainUpwards();
        bigTable();
        bigWeights();
        bigSlack();
        strangeCalls();
        System.out.println(wrong == 0 ? "the limits hold" : wrong + " answers are not as due");
        if (wrong != 0) System.exit(1);
    }

    /** Each joins the one before it twice: 2 ^ 39 ways down to key 0. */
    private static void fortyJoined() {
        HerbKey x = new HerbKey();
        x.key(0);
        x.couplet(0, 0, 0, 1, 0);
        x.lead(0, 0, false, 109);
        for (int i = 1; i < 40; i++) {
            x.key(4);
            is("join " + i, x.join(i, i - 1, i - 1), i);
        }
        is("names", x.names(39, 0), 1);
        is("pick", x.pick(0), 1);
        is("source", x.proof(-1), 0);
        is("check", x.check(), 1);
        is("ring", x.join(1, 39, 0), HerbKey.BAD);
        is("why", x.status(), 6);
    }

    /** Each has several couplets that ask the one before it. */
    private static void fortyAsking() {
        HerbKey x = new HerbKey();
        x.sheet();
        x.row(0, 0, 1);
        for (int i = 0; i < 40; i++) {
            x.key(3);
            for (int c = 0; c < 9; c++) {
                is("couplet", x.couplet(i, i == 0 ? 0 : 7, i - 1, 0, 0), c);
            }
            x.want(i, 0, 8, i % 2);
        }
        is("ring", x.couplet(0, 7, 39, 0, 0), HerbKey.BAD);
        is("why", x.status(), 6);
        is("names of key 0", x.names(0, 0), 1);
        is("unknown", x.unknowns(0), 1);
        is("names", x.names(39, 0), 1);
        is("unknown", x.unknowns(0), 1);
        x.undo();
        x.couplet(0, 0, 0, 0, 0);
        x.want(0, 0, 9, 1);
        is("sure", x.sure(0, 0), HerbKey.BAD);
        is("cause", x.cause(39, 0, 0), 8);
    }

    /** Every couplet leads to the next one by NO and by YES: 2 ^ 40 ways. */
    private static void manyWays() {
        HerbKey x = new HerbKey();
        x.key(1);
        for (int c = 0; c < 40; c++) x.couplet(0, 0, 0, 1, 0);
        for (int c = 0; c < 39; c++) {
            x.lead(0, c, true, c + 1);
            x.lead(0, c, false, c + 1);
        }
        x.lead(0, 39, true, 163);
        x.lead(0, 39, false, 163);
        is("names", x.names(0, 0), 1);
        is("unknowns", x.unknowns(0), 40);
        is("pick", x.pick(0), 40);
        for (int j = 0; j < 40; j++) is("entry", x.proof(j), 4 * j + 3);
        is("check", x.check(), 1);
        is("forge", x.forge(39, 158), 158);
        is("check", x.check(), 1);
        is("depth", x.depth(0), 40);
        is("unreached", x.unreached(0), 0);
        is("next", x.next(0, 0), 0);
        is("ring", x.lead(0, 39, true, 0), HerbKey.BAD);
        is("why", x.status(), 6);
    }

    /** Leads that go to lesser numbers: the order of the couplets is not that of the way. */
    private static void chainUpwards() {
        HerbKey x = new HerbKey();
        x.key(0);
        for (int c = 0; c < 40; c++) x.couplet(0, 0, 0, 1, 0);
        x.lead(0, 0, true, 39);
        for (int c = 39; c > 1; c--) x.lead(0, c, false, c - 1);
        x.lead(0, 1, true, 100);
        x.lead(0, 20, true, 101);
        is("depth", x.depth(0), 40);
        is("names", x.names(0, 0), 2);
        is("name", x.name(0), 1);
        is("unknowns", x.unknowns(0), 21);
        is("unknowns", x.unknowns(1), 40);
        is("pick", x.pick(1), 40);
        is("last entry", x.proof(39), 7);
        is("check", x.check(), 1);
    }

    /** 40 couplets, of which all 64 names learn all. */
    private static void bigTable() {
        HerbKey x = new HerbKey();
        x.sheet();
        x.row(0, 2, 40);
        x.key(2);
        for (int c = 0; c < 40; c++) x.couplet(0, 1, c, 1, 0);
        for (int n = 0; n < 64; n++) {
            x.code(0, n % 40, 1);
            is("learn", x.learn(0, 0, n), 40);
        }
        is("names", x.names(0, 0), 25);
        is("twins", x.twins(0), 25 * 24 / 2);
        is("all unknown", x.names(0, 1), 64);
        is("unknowns", x.unknowns(63), 40);
        is("parts", x.parts(0, 0, 63), 39);
        is("next", x.next(0, 1), 32);
        is("pick", x.pick(63), 40);
        is("check", x.check(), 1);
    }

    /** Pairs of 64 names by weights: name n wants couplet 0, and couplet 1 + n % 32. */
    private static void bigWeights() {
        HerbKey x = new HerbKey();
        x.key(3);
        for (int c = 0; c < 40; c++) {
            x.couplet(0, 0, 0, 1, 0);
            x.weigh(0, c, 9);
        }
        for (int n = 0; n < 64; n++) {
            x.want(0, n, 0, 1);
            x.want(0, n, 1 + n % 32, 0);
        }
        is("twins of slack 8", x.twins(0), 32);
        x.slack(0, 9);
        is("twins of slack 9", x.twins(0), 32);
        x.slack(0, 18);
        is("twins of slack 18", x.twins(0), 2016);
        x.slack(0, 99);
        is("twins of slack 99", x.twins(0), 2016);
        for (int c = 1; c < 33; c++) x.want(0, 5, c, 1);
        is("more than all slack", x.parted(0, 5, 6), 1);
        is("score", x.score(0, 0, 5), 0);
    }

    /** Two names that want many couplets alike: some of their weights must come close to the slack. */
    private static void bigSlack() {
        Random random = new Random(11);
        for (int run = 0; run < 300; run++) {
            HerbKey x = new HerbKey();
            x.key(3);
            int slack = random.nextInt(100);
            x.slack(0, slack);
            int alike = random.nextInt(30);
            int least = run % 2 == 0 ? 0 : 7;
            boolean[] sums = new boolean[400];
            sums[0] = true;
            for (int c = 0; c < alike; c++) {
                int w = least + random.nextInt(10 - least);
                x.couplet(0, 0, 0, 1, 0);
                x.weigh(0, c, w);
                x.want(0, 1, c, c % 2);
                x.want(0, 2, c, c % 2);
                for (int s = 399; s >= w; s--) sums[s] |= sums[s - w];
            }
            int apart = random.nextInt(4);
            x.couplet(0, 0, 0, 1, 0);
            x.weigh(0, alike, apart);
            x.want(0, 1 + run % 2, alike, 1);
            x.want(0, 2 - run % 2, alike, run % 3);
            boolean told = false;
            for (int s = 0; s <= slack; s++) {
                if (sums[s] && s + apart > slack) told = true;
            }
            if (run % 3 == 1) told = false;
            if (alike == 0 && run % 3 == 2) told = true;
            is("parted, run " + run, x.parted(0, 1, 2), told ? 1 : 0);
            is("parted, run " + run, x.parted(0, 2, 1), told ? 1 : 0);
        }
    }

    /** Calls with any numbers, far beyond the 512th, must all answer. */
    private static void strangeCalls() {
        Random random = new Random(5);
        for (int run = 0; run < 60; run++) {
            HerbKey x = new HerbKey();
            for (int call = 0; call < 3000; call++) {
                try {
                    strange(x, random);
                } catch (RuntimeException | StackOverflowError e) {
                    wrong++;
                    System.out.println("run " + run + ", call " + call + " threw " + e);
                    return;
                }
            }
        }
    }

    private static int any(Random random) {
        int[] edges = {-3, -2, -1, 0, 0, 1, 1, 2, 3, 39, 40, 60, 63, 64, 100, 101, 163, 255, Integer.MIN_VALUE, Integer.MAX_VALUE};
        return random.nextInt(4) == 0 ? edges[random.nextInt(edges.length)] : random.nextInt(6);
    }

    private static void strange(HerbKey x, Random random) {
        int a = any(random), b = any(random), c = any(random), d = any(random), e = any(random);
        boolean yes = random.nextBoolean();
        switch (random.nextInt(42)) {
            case 0: x.sheet(); break;
            case 1: if (random.nextInt(20) == 0) x.lose(a); break;
            case 2: x.row(a, b, c); break;
            case 3: x.state(a, b, c); break;
            case 4: x.measure(a, b, c, d); break;
            case 5: x.lack(a, b, c); break;
            case 6: x.code(a, b, c); break;
            case 7: x.read(a, b, c); break;
            case 8: x.merge(a, b); break;
            case 9: x.key(a); break;
            case 10: if (random.nextInt(20) == 0) x.drop(a); break;
            case 11: case 12: case 13: x.couplet(a, b + (yes ? 4 : 0), c, d, e); break;
            case 14: x.lead(a, b, yes, c); break;
            case 15: x.lead(a, b, yes, 100 + c); break;
            case 16: x.join(a, b, c); break;
            case 17: x.region(a, random.nextLong()); break;
            case 18: x.want(a, b, c, d); break;
            case 19: x.weigh(a, b, c); break;
            case 20: x.slack(a, b); break;
            case 21: x.learn(a, b, c); break;
            case 22: x.ask(a, b, c); break;
            case 23: x.cause(a, b, c); break;
            case 24: x.names(a, b); break;
            case 25: x.name(a); x.unknowns(a); break;
            case 26: x.pick(a); break;
            case 27: x.proof(a); break;
            case 28: x.forge(a, b); break;
            case 29: x.check(); break;
            case 30: x.sure(a, b); break;
            case 31: x.score(a, b, c); break;
            case 32: x.next(a, b); break;
            case 33: x.compare(a, b, c); break;
            case 34: x.unreached(a); break;
            case 35: x.depth(a); break;
            case 36: x.parted(a, b, c); break;
            case 37: x.twins(a); break;
            case 38: x.parts(a, b, c); break;
            case 39: x.trace(a, b); break;
            case 40: x.undo(); break;
            default: x.digest(); break;
        }
    }
}
