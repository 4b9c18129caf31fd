import java.io.IOException;
import java.nio.file.Files;
import java.nio.file.Path;
import java.util.function.Supplier;
import java.util.function.ToLongFunction;

/** Holds the answers that came against those that are due, and prints each one that differs. */
final class Due {
    static final int BAD = HerbKey.BAD;
    static final int MIN = Integer.MIN_VALUE;
    static final int MAX = Integer.MAX_VALUE;

    private static final Path DOCUMENT = Path.of("../shared/DOC.md");

    private static int wrong = 0;
    private static String sentence = "";
    private static String document = "";

    private Due() {
    }

    /** The document's own words that the next answers are about. */
    static void by(String words) {
        sentence = words;
        if (!document().contains(words)) {
            wrong++;
            System.out.println("\"" + words + "\" is not in the document");
        }
    }

    private static String document() {
        if (!document.isEmpty()) return document;
        try {
            document = Files.readString(DOCUMENT).replaceAll("\\s+", " ");
        } catch (IOException e) {
            System.out.println(DOCUMENT + " cannot be read");
        }
        return document;
    }

    static void is(String what, long got, long due) {
        if (got == due) return;
        wrong++;
        if (wrong <= 50) System.out.println("\"" + sentence + "\": " + what + " answered " + got + ", due is " + due);
    }

    /** A call that went well: its answer, and status 0. */
    static void well(String what, HerbKey x, long got, long due) {
        is(what, got, due);
        is(what + ", status", x.status(), 0);
    }

    /** A call that was refused: BAD, and why. */
    static void refused(String what, HerbKey x, long got, int why) {
        is(what, got, BAD);
        is(what + ", status", x.status(), why);
    }

    /** A call on a house of its own that is refused, and changes nothing but the status. */
    static void refused(String what, Supplier<HerbKey> house, ToLongFunction<HerbKey> call, int why) {
        HerbKey x = house.get();
        refused(what, x, call.applyAsLong(x), why);
        same(what + " changes nothing", x, house.get());
    }

    /** Whether two houses cannot be told apart: row, proof, digest and changes, and so at each undo(). */
    static void same(String what, HerbKey x, HerbKey y) {
        for (int i = 0; i < 5; i++) {
            is(what + ", name " + i, x.name(i), y.name(i));
            is(what + ", unknowns " + i, x.unknowns(i), y.unknowns(i));
        }
        for (int j = -3; j < 4; j++) is(what + ", proof " + j, x.proof(j), y.proof(j));
        is(what + ", check", x.check(), y.check());
        is(what + ", digest", x.digest(), y.digest());
        is(what + ", changes", x.changes(), y.changes());
        for (int i = y.changes(); i > 0; i--) {
            is(what + ", undo", x.undo(), y.undo());
            is(what + ", digest with " + (i - 1) + " changes", x.digest(), y.digest());
        }
        is(what + ", undo", x.undo(), y.undo());
    }

    static void end(String well) {
        System.out.println(wrong == 0 ? well : wrong + " answers are not as due");
        if (wrong != 0) System.exit(1);
    }
}
