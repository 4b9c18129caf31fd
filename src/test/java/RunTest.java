import java.lang.management.ManagementFactory;
import java.util.function.IntSupplier;

/** Runs of 512 calls, promised to their last call, and the room that the dearest ones take. */
public final class RunTest {
    private static final int BAD = Due.BAD;
    private static final int CALLS = 512;
    /** Of fields and elements there may be 7.3 million; 4 bytes each would be 29 million, and a run stays far below. */
    private static final long MOST_BYTES = 4_000_000;

    private static HerbKey x;
    private static int used;

    public static void main(String[] args) {
        Due.by("An object is used for at most 512 calls after it has been made");
        allChanges();
        lastIsCounted();
        lastIsTakenBack();
        halfAndHalf();
        toAndFro();
        eachAsTheLast();
        refusedAsTheLast();
        longestNames();
        Due.by("Nothing is promised beyond the answers and state changes described above, and nothing about an object after its 512th call.");
        farBeyond();
        room();
        Due.end("runs of 512 calls hold to their last call");
    }

    private static void begin() {
        x = new HerbKey();
        used = 0;
    }

    /** Counts a call, so that no run goes beyond its 512th. */
    private static long use(long answer) {
        used++;
        if (used > CALLS) throw new IllegalStateException("this test calls too often");
        return answer;
    }

    /** A change with number i, which can be told by the digest. */
    private static long change(int i) {
        if (i == 0) return x.sheet();
        if (i == 1) return x.row(0, 2, 40);
        return x.code(0, i % 40, i);
    }

    private static long due(int i) {
        return i == 0 ? 0 : i == 1 ? 40 : i;
    }

    private static void allChanges() {
        begin();
        for (int i = 0; i < CALLS; i++) Due.is("change " + i, use(change(i)), due(i));
    }

    private static void lastIsCounted() {
        begin();
        for (int i = 0; i < CALLS - 1; i++) use(change(i));
        Due.is("the 512th call counts 511 changes", use(x.changes()), 511);
        begin();
        for (int i = 0; i < CALLS - 1; i++) use(change(i));
        Due.is("the 512th call reads the latest", use(x.read(0, 2, 510 % 40)), 510);
        begin();
        for (int i = 0; i < CALLS - 1; i++) use(change(i));
        Due.is("the 512th call tells the status", use(x.status()), 0);
    }

    private static void lastIsTakenBack() {
        begin();
        for (int i = 0; i < CALLS - 1; i++) use(change(i));
        Due.is("the 512th call takes the 511th back", use(x.undo()), 510);
        begin();
        for (int i = 0; i < CALLS - 2; i++) use(change(i));
        use(x.undo());
        Due.is("the 512th call finds the one before", use(x.read(0, 2, 509 % 40)), 509 - 40);
    }

    private static void halfAndHalf() {
        begin();
        for (int i = 0; i < 256; i++) use(change(i));
        for (int i = 255; i >= 0; i--) Due.is("undo " + i, use(x.undo()), i);
        begin();
        for (int i = 0; i < 255; i++) use(change(i));
        for (int i = 254; i >= 0; i--) use(x.undo());
        Due.is("one undo too many", use(x.undo()), BAD);
        Due.is("status, the 512th call", use(x.status()), 7);
        begin();
        for (int i = 0; i < 255; i++) use(change(i));
        for (int i = 254; i >= 0; i--) use(x.undo());
        use(x.changes());
        Due.is("all as at first, the 512th call", use(x.digest()), 7 * 31 * 31);
    }

    /** A change and its undo() 256 times: the number of a key or a sheet that was taken back is free again. */
    private static void toAndFro() {
        for (int kind = -1; kind < 5; kind++) {
            begin();
            for (int i = 0; i < 256; i++) {
                Due.is("made anew", use(kind < 0 ? x.sheet() : x.key(kind)), 0);
                Due.is("taken back", use(x.undo()), 0);
            }
        }
        begin();
        use(x.sheet());
        use(x.sheet());
        for (int i = 0; i < 170; i++) {
            use(x.lose(1));
            Due.is("undo", use(x.undo()), 2);
            Due.is("it is there", use(x.lose(1)), 1);
            use(x.undo());
            if (used > CALLS - 4) break;
        }
    }

    /** Each call as the 512th of a run. */
    private static void eachAsTheLast() {
        IntSupplier[] calls = {
            () -> x.lose(0), () -> x.row(0, 0, 40), () -> x.state(0, 0, 1), () -> x.measure(0, 0, 1, 1), () -> x.lack(0, 0, 0),
            () -> x.code(0, 0, 1), () -> (int) x.read(0, 2, 0), () -> x.merge(0, 0), () -> x.key(4), () -> x.drop(0),
            () -> x.couplet(0, 0, 0, 1, 0), () -> x.lead(0, 0, true, 101), () -> x.join(4, 0, 1), () -> x.region(1, 3),
            () -> x.want(2, 5, 0, 1), () -> x.weigh(3, 0, 3), () -> x.slack(3, 3), () -> x.learn(3, 0, 6), () -> x.ask(0, 0, 0),
            () -> x.cause(0, 0, 0), () -> x.names(0, 0), () -> x.name(0), () -> x.unknowns(0), () -> x.pick(0), () -> x.proof(0),
            () -> x.forge(0, 3), () -> x.check(), () -> x.sure(0, 0), () -> x.score(3, 0, 5), () -> x.next(0, 9), () -> x.compare(0, 0, 9),
            () -> x.unreached(0), () -> x.depth(0), () -> x.parted(0, 7, 8), () -> x.twins(0), () -> x.parts(2, 5, 6), () -> x.trace(0, 0),
            () -> x.sheet(), () -> x.undo(), () -> x.changes(), () -> x.status(), () -> (int) x.digest()};
        for (int c = 0; c < calls.length; c++) {
            long early = asCall(calls[c], 60);
            long late = asCall(calls[c], CALLS - 1);
            Due.is("call " + c + " as the 512th", late, early);
        }
    }

    /** The answer of a call behind a house of some 30 calls and as many more that take one another back. */
    private static long asCall(IntSupplier call, int at) {
        begin();
        use(x.sheet());
        for (int kind = 0; kind < 3; kind++) use(x.row(0, kind, 4));
        for (int kind = 0; kind < 5; kind++) use(x.key(kind));
        for (int k = 0; k < 4; k++) use(x.couplet(k, 0, 0, 0, 0));
        for (int k = 0; k < 2; k++) use(x.lead(k, 0, true, 107));
        for (int k = 2; k < 4; k++) use(x.want(k, 5, 0, 1));
        use(x.names(0, 0));
        use(x.pick(0));
        if ((at - used) % 2 != 0) use(x.status());
        while (used < at) {
            use(x.state(0, 3, used % 100));
            use(x.undo());
        }
        return use(call.getAsInt());
    }

    private static void refusedAsTheLast() {
        begin();
        for (int i = 0; i < 40; i++) use(x.sheet());
        for (int i = 0; i < CALLS - 42; i++) Due.is("refused", use(x.sheet()), BAD);
        Due.is("changes", use(x.changes()), 40);
        Due.is("status, the 512th call", use(x.status()), 8);
    }

    /** 40 couplets, all 64 names, asked by the last calls. */
    private static void longestNames() {
        begin();
        use(x.key(2));
        for (int c = 0; c < 40; c++) use(x.couplet(0, 0, c, 1, 0));
        for (int n = 0; n < 64; n++) for (int c = 0; c < 7; c++) use(x.want(0, n, 39 - c, 1));
        while (used < CALLS - 4) use(x.status());
        Due.is("names", use(x.names(0, 0)), 64);
        Due.is("the last name", use(x.name(63)), 63);
        Due.is("its unknowns", use(x.unknowns(63)), 7);
        Due.is("its row, the 512th call", use(x.pick(63)), 7);
    }

    /** What later calls answer is free, but they answer, and the room stays small. */
    private static void farBeyond() {
        HerbKey far = new HerbKey();
        far.sheet();
        far.row(0, 2, 40);
        for (int i = 0; i < 100_000; i++) far.code(0, i % 40, i % 65536);
        Due.is("the latest is held", far.read(0, 2, 99_999 % 40), 99_999 % 65536);
        int undone = 0;
        while (far.undo() != BAD && undone < 200_000) undone++;
        Due.is("it ends", undone < 200_000 ? 1 : 0, 1);
    }

    private static long bytesOf(Runnable run) {
        com.sun.management.ThreadMXBean threads = (com.sun.management.ThreadMXBean) ManagementFactory.getThreadMXBean();
        run.run();
        long before = threads.getCurrentThreadAllocatedBytes();
        run.run();
        return threads.getCurrentThreadAllocatedBytes() - before;
    }

    private static void small(String what, Runnable run) {
        long bytes = bytesOf(run);
        if (bytes > MOST_BYTES) Due.is(what + ": bytes made", bytes, MOST_BYTES);
    }

    /** The dearest runs: each call makes what it can at most. */
    private static void room() {
        for (int kind = 0; kind < 5; kind++) {
            int it = kind;
            small("keys of kind " + kind, () -> {
                HerbKey h = new HerbKey();
                for (int i = 0; i < 256; i++) { h.key(it); h.undo(); }
            });
        }
        small("rows", () -> {
            HerbKey h = new HerbKey();
            h.sheet();
            for (int i = 1; i < CALLS; i++) h.row(0, i % 3, 40);
        });
        small("merges", () -> {
            HerbKey h = new HerbKey();
            h.sheet();
            h.sheet();
            for (int kind = 0; kind < 3; kind++) h.row(0, kind, 40);
            for (int i = 5; i < CALLS - 1; i += 2) { h.merge(1, 0); h.undo(); }
        });
        small("merges of measures", () -> {
            HerbKey h = new HerbKey();
            h.sheet();
            h.sheet();
            for (int s = 0; s < 2; s++) for (int kind = 0; kind < 3; kind++) h.row(s, kind, 40);
            for (int i = 8; i < CALLS; i++) h.merge(0, 1);
        });
        small("asking", () -> {
            HerbKey h = new HerbKey();
            h.sheet();
            h.row(0, 0, 2);
            for (int k = 0; k < 20; k++) { h.key(3); for (int c = 0; c < 10; c++) h.couplet(k, c == 0 ? 0 : 7, c == 0 ? 0 : k - 1, 0, 0); }
            for (int k = 0; k < 20; k++) h.learn(k, 0, k);
            for (int i = 0; i < 60; i++) { h.names(19, 0); h.next(19, 9); h.twins(19); h.pick(0); }
        });
    }
}
