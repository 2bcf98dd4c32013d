import java.io.IOException;
import java.nio.charset.StandardCharsets;
import java.nio.file.Files;
import java.nio.file.Path;

/** What the tests share: answers that are due, texts on the tape, and frames that many of them burn. */
abstract class Checks {
    /** Numbers that are far outside of every range of the document, on both sides. */
    static final int[] FAR = {Integer.MIN_VALUE, Integer.MIN_VALUE + 1, -2_000_000, 2_000_000, Integer.MAX_VALUE - 1,
        Integer.MAX_VALUE};
    /** No numbers of knots: just outside, such as shifts would wrap around, and far away. */
    static final int[] NO_KNOTS = {-1, 8, -2, 9, -8, 10, -32, 32, 40, 256, -256, Integer.MIN_VALUE, Integer.MAX_VALUE};
    /** No numbers of fuses, if there are ten. */
    static final int[] NO_FUSES = {-1, 10, -2, 11, -10, -32, 32, 33, 256, -256, Integer.MIN_VALUE, Integer.MAX_VALUE};
    /** No knots as bits. */
    static final int[] NO_BITS = {-1, 256, 257, -255, -256, 511, 65536, Integer.MIN_VALUE, Integer.MAX_VALUE};
    /** Neither what 0 nor what 1. */
    static final int[] NO_WHAT = {-1, 2, 3, -2, 256, Integer.MIN_VALUE, Integer.MAX_VALUE};

    private static final Path DOCUMENT = Path.of("../shared/DOC.md");
    private static String document = null;
    private static String place = "";
    private static int asked = 0;
    private static int wrong = 0;
    private static int edges = 0;

    static void in(String where) {
        place = where;
    }

    static void is(String what, long got, long want) {
        asked++;
        if (got != want) {
            wrong++;
            System.out.println(place + ": " + what + " is " + got + ", due is " + want);
        }
    }

    /** A test of its own for one sentence of the document: the sentence must stand there as it is told here. */
    static void edge(String where, String sentence, Runnable test) {
        edges++;
        in(where + ", \"" + sentence + "\"");
        if (!document().contains(sentence)) {
            wrong++;
            System.out.println(place + ": the document does not say so");
        }
        int before = asked;
        try {
            test.run();
        } catch (RuntimeException e) {
            wrong++;
            System.out.println(place + ": threw " + e);
        }
        if (asked == before) {
            wrong++;
            System.out.println(place + ": nothing was asked");
        }
    }

    private static String document() {
        if (document == null) {
            try {
                document = Files.readString(DOCUMENT, StandardCharsets.UTF_8);
            } catch (IOException e) {
                throw new IllegalStateException("no document: " + e);
            }
        }
        return document;
    }

    static void finish() {
        System.out.println((edges > 0 ? edges + " edges, " : "") + asked + " answers asked, " + wrong + " wrong");
        if (wrong != 0) {
            System.exit(1);
        }
    }

    // ---- texts

    /** Puts bytes behind the tape, and nothing behind them. */
    static void tape(FuseFrames x, String text) {
        int ahead = x.count(7);
        for (int i = 0; i < text.length(); i += 20) {
            int[] v = new int[5];
            for (int j = 0; j < 20; j++) {
                v[j / 4] = v[j / 4] << 8 | (i + j < text.length() ? text.charAt(i + j) : 0);
            }
            x.feed(v[0], v[1], v[2], v[3], v[4]);
        }
        x.end(ahead + text.length());
    }

    static int law(FuseFrames x, String text) {
        tape(x, text);
        return x.law();
    }

    static int orders(FuseFrames x, String text) {
        tape(x, text);
        return x.orders();
    }

    static void readsLaw(String text) {
        FuseFrames x = new FuseFrames();
        is("law " + text, law(x, text), 0);
        is("fault of " + text, x.fault(), -1);
    }

    static void faultOfLaw(String text, int place) {
        FuseFrames x = new FuseFrames();
        is("law " + text, law(x, text), -6);
        is("fault of " + text, x.fault(), place);
    }

    static void faultOfOrders(String text, int place) {
        FuseFrames x = new FuseFrames();
        is("orders " + text, orders(x, text), -6);
        is("fault of " + text, x.fault(), place);
        is("stopped of " + text, x.stopped(), -1);
    }

    // ---- frames

    /** Fuse 0 from 0 to 1, 10 long, of kind 2; fuse 1 from 1 to 2, 4 long, of kind 0. */
    static FuseFrames two() {
        FuseFrames x = new FuseFrames();
        x.fuse(0, 1, 10, 2);
        x.fuse(1, 2, 4, 0);
        return x;
    }

    /** The frame of two() with a law in force. */
    static FuseFrames under(String text) {
        FuseFrames x = two();
        is("law " + text, law(x, text), 0);
        x.force(0);
        return x;
    }

    /** Knots 0 .. 7 in a row by fuses 0 .. 6, fuse i being i + 1 long. */
    static FuseFrames chain() {
        FuseFrames x = new FuseFrames();
        for (int i = 0; i < 7; i++) {
            x.fuse(i, i + 1, i + 1, 0);
        }
        return x;
    }

    /** Fuses that are given one by one: from, to, long; all of kind 0. */
    static FuseFrames frame(int... fuses) {
        FuseFrames x = new FuseFrames();
        for (int i = 0; i < fuses.length; i += 3) {
            x.fuse(fuses[i], fuses[i + 1], fuses[i + 2], 0);
        }
        return x;
    }

    static void times(int n, Runnable call) {
        for (int i = 0; i < n; i++) {
            call.run();
        }
    }
}
