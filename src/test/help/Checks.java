import java.io.IOException;
import java.io.UncheckedIOException;
import java.nio.file.Files;
import java.nio.file.Path;
import java.util.ArrayList;
import java.util.List;

/** What the boundary tests share: sentences of the document, answers that are due, objects to begin with. */
final class Checks {
    static final int MOST = Integer.MAX_VALUE;
    static final int LEAST = Integer.MIN_VALUE;
    static final int BAD = PartedInks.BAD;
    static final int NOT = PartedInks.NOT;
    static final int FULL = PartedInks.FULL;
    static final int NONE = PartedInks.NONE;
    static final int NULL = PartedInks.NULL;
    static final int CAST = PartedInks.CAST;
    static final int INDEX = PartedInks.INDEX;
    static final int SIZE = PartedInks.SIZE;
    /** KINDS that seen answers when the pairs are so whatever the ink is of. */
    static final int ALL_KINDS = 15;
    static final int MULTIPLIER = 1103515245;

    /** The sentences whose tests failed, in their order. */
    static final List<String> FAILED = new ArrayList<>();
    private static final String DOCUMENT = documentText();
    private static final int MOST_SHOWN = 5;
    private static String words = "";
    private static int sentences = 0;
    private static int checks = 0;
    private static int wrong = 0;
    private static int shown = 0;

    private Checks() {
    }

    private static String documentText() {
        try {
            return Files.readString(Path.of("../shared/DOC.md")).replaceAll("\\s+", " ");
        } catch (IOException e) {
            throw new UncheckedIOException(e);
        }
    }

    /** One sentence of the document, word by word, and the test that is its own. */
    static void sentence(String newWords, Runnable test) {
        words = newWords;
        sentences++;
        shown = 0;
        int wrongAhead = wrong;
        int checksAhead = checks;
        if (!DOCUMENT.contains(words)) {
            fault("the document does not say so");
        }
        try {
            test.run();
        } catch (RuntimeException | Error e) {
            fault("a call threw " + e);
        }
        if (checks == checksAhead) {
            fault("nothing was checked");
        }
        if (wrong > wrongAhead) {
            FAILED.add(words);
        }
    }

    private static void fault(String what) {
        wrong++;
        shown++;
        if (shown <= MOST_SHOWN) {
            System.out.println("'" + words + "': " + what);
        }
    }

    static void due(String call, long got, long want) {
        checks++;
        if (got != want) {
            fault(call + " answered " + got + ", due is " + want);
        }
    }

    static void dueText(String what, String got, String want) {
        checks++;
        if (!got.equals(want)) {
            fault(what + " is " + got + ", due is " + want);
        }
    }

    static void dueSets(PartedInks x, String want) {
        dueText("the drawing", sets(x), want);
    }

    static void end() {
        System.out.println(sentences + " sentences, " + checks + " checks, " + wrong + " wrong");
        if (wrong != 0) {
            System.exit(1);
        }
    }

    static int text(PartedInks x, String letters) {
        for (char letter : letters.toCharArray()) {
            x.type(letter);
        }
        return x.draw();
    }

    static PartedInks drawn(String letters) {
        PartedInks x = new PartedInks();
        due("draw() of '" + letters + "', which is a drawing", text(x, letters) > 0 ? 1 : 0, 1);
        return x;
    }

    /** The sets of all places, line by line. */
    static String sets(PartedInks x) {
        int wide = x.count(0);
        int high = x.count(1);
        StringBuilder all = new StringBuilder();
        for (int y = 0; y < high; y++) {
            for (int k = 0; k < wide; k++) {
                all.append(k > 0 ? "," : y > 0 ? "/" : "").append(x.place(k, y, 0));
            }
        }
        return all.toString();
    }

    /** Inks, the order, the drawing, and how many steps may be undone. */
    static String state(PartedInks x) {
        StringBuilder all = new StringBuilder();
        for (int ink = 0; ink < 5; ink++) {
            all.append(x.ink(ink, 0)).append(':').append(x.ink(ink, 1)).append(' ');
        }
        return all.append(x.count(2)).append(' ').append(sets(x)).append(' ').append(x.count(12)).toString();
    }

    static int draw(PartedInks x) {
        int v = x.seed(0);
        x.seed(v);
        return v;
    }

    static void row(PartedInks x, int sheet, int lane, long... items) {
        x.sheet(sheet, lane, items.length);
        for (int k = 0; k < items.length; k++) {
            x.item(sheet, lane, k, items[k]);
        }
    }

    /**
     * Whether an item is this number (0 .. 4095): no call tells an item, but ink 0, made opaque, looks like its tone.
     * It tells ink 0, and takes sheet 3.
     */
    static void dueItem(PartedInks x, int sheet, int lane, int i, int want) {
        x.tell(0, 1, want);
        row(x, 3, lane, 1, want == 0 ? 1 : 0);
        x.copy(sheet, i, 3, 1, 1);
        due("item " + i + " is " + want + ", as seen", x.seen(4, 3, lane, 0, 1), ALL_KINDS);
    }

    /** Whether an item is a number that is no set: below 0, or above 31. It takes sheet 3. */
    static void dueNoSet(PartedInks x, int sheet, int lane, int i, int want) {
        row(x, 3, lane, 0, 0);
        x.copy(sheet, i, 3, 0, 1);
        due("item " + i + " is no set, as seen", x.seen(4, 3, lane, 0, 1) == NOT ? 1 : 0, want);
    }

    /** An object with something of everything: steps, an image, letters, sheets. */
    static PartedInks worked() {
        PartedInks x = drawn("ab/cd");
        x.tell(3, 1, 0x012);
        x.order(20413);
        x.put(0, 0, 9);
        x.seed(77);
        x.image();
        x.put(1, 0, 16);
        x.seed(78);
        x.type('a');
        x.type('b');
        row(x, 0, 2, 2, 0xf0f, 32, 0);
        row(x, 1, 0, 8, 0x12, 8, 0x12);
        x.sheet(3, 1, 0);
        return x;
    }

    /** All that can be told of a worked object; it is used up by that. */
    static String whole(PartedInks x) {
        StringBuilder all = new StringBuilder(state(x));
        all.append(" draw ").append(draw(x));
        all.append(" seen ").append(x.seen(0, 0, 2, 0, 1)).append(' ').append(x.seen(0, 0, 2, 2, 1));
        all.append(' ').append(x.seen(0, 1, 0, 0, 2));
        for (int time = 0; time < 2; time++) {
            for (int step = 0; step < 5; step++) {
                all.append("\nundone, left ").append(x.undo()).append(": ").append(state(x)).append(" draw ").append(draw(x));
            }
            all.append("\nrestored ").append(x.restore()).append(": ").append(state(x)).append(" draw ").append(draw(x));
        }
        for (int sheet = 0; sheet < 4; sheet++) {
            all.append("\ndropped ").append(x.drop(sheet));
        }
        all.append("\ntyped ").append(x.type('/')).append(x.type('2')).append(x.type('e'));
        return all.append(" drawn ").append(x.draw()).append(' ').append(sets(x)).toString();
    }
}
