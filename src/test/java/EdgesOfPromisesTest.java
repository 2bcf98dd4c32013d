/**
 * The promises 1 to 43 of the document, sentence by sentence: whatever is too small, too large, empty,
 * full, wrapped around or refused there has a test of its own here.
 */
public final class EdgesOfPromisesTest extends Checks {

    /** Ten fuses: 0 .. 6 as in chain(), then three that close rounds. */
    private static FuseFrames ten() {
        FuseFrames x = chain();
        x.fuse(7, 0, 60, 3);
        x.fuse(2, 0, 60, 1);
        x.fuse(5, 3, 60, 2);
        return x;
    }

    /** All that can be asked without an argument of a call, as one text: it stays, if a call changes nothing. */
    private static String state(FuseFrames x) {
        StringBuilder all = new StringBuilder();
        for (int what = 0; what <= 17; what++) {
            if (what < 8 || what > 12) {
                all.append(x.count(what)).append(' ');
            }
        }
        for (int fuse = 0; fuse < x.count(0); fuse++) {
            for (int what = 0; what <= 7; what++) {
                all.append(x.of(fuse, what)).append(' ');
            }
        }
        for (int knot = 0; knot < 8; knot++) {
            all.append(x.at(knot, 0)).append(' ').append(x.at(knot, 1)).append(' ').append(x.drawn(knot, 1)).append(' ');
        }
        return all.append(x.was()).append(' ').append(x.fault()).append(' ').append(x.stopped()).append(' ').append(x.ash())
                .toString();
    }

    private static void isRefused(FuseFrames x, String what, int got, int by) {
        is(what, got, by);
        is(what + ": status", x.status(), by);
    }

    private static void staysAsItWas(String what, FuseFrames x, String before) {
        is(what + ": all is as it was", state(x).equals(before) ? 0 : 1, 0);
    }

    // ---- 1 to 6: the frame

    private static void withoutFuses() {
        FuseFrames x = new FuseFrames();
        is("fuses", x.count(0), 0);
        for (int what = 0; what <= 7; what++) {
            is("of a fuse", x.of(0, what), -1);
        }
        is("soak", x.soak(0), -2);
        is("swap", x.swap(0, 1), -2);
        is("out", x.out(255, 0), -1);
        is("gone", x.count(17), 0);
        is("pass", x.pass(), 0);
        is("a fuse comes", x.fuse(0, 1, 1, 0), 0);
    }

    private static void fuseThatCantBe() {
        FuseFrames x = two();
        x.soak(0);
        String before = state(x);
        int refused = 0;
        for (int knot : NO_KNOTS) {
            isRefused(x, "from " + knot, x.fuse(knot, 1, 5, 0), -1);
            isRefused(x, "to " + knot, x.fuse(1, knot, 5, 0), -1);
            isRefused(x, "from and to " + knot, x.fuse(knot, knot, 5, 0), -1);
            refused += 3;
        }
        isRefused(x, "from is to", x.fuse(4, 4, 5, 0), -1);
        isRefused(x, "too short", x.fuse(0, 1, 0, 0), -1);
        isRefused(x, "too long", x.fuse(0, 1, 61, 0), -1);
        isRefused(x, "no kind", x.fuse(0, 1, 5, -1), -1);
        isRefused(x, "no kind", x.fuse(0, 1, 5, 4), -1);
        isRefused(x, "nothing of it can be", x.fuse(8, 8, 0, 4), -1);
        is("how often", x.count(8), refused + 6);
        staysAsItWas("fuse", x, before);
    }

    private static void noRoomForFuse() {
        FuseFrames x = ten();
        x.soak(0);
        String before = state(x);
        isRefused(x, "the eleventh", x.fuse(0, 1, 5, 0), -5);
        is("how often", x.count(11), 1);
        staysAsItWas("fuse", x, before);
    }

    private static void ofNothing() {
        FuseFrames x = ten();
        x.light(0);
        for (int what = 0; what <= 7; what++) {
            for (int fuse : NO_FUSES) {
                is("of(" + fuse + ", " + what + ")", x.of(fuse, what), -1);
            }
        }
        for (int what : new int[] {-1, 8, -2, 9, 256, Integer.MIN_VALUE, Integer.MAX_VALUE}) {
            is("of(0, " + what + ")", x.of(0, what), -1);
            is("of(9, " + what + ")", x.of(9, what), -1);
        }
        FuseFrames y = two();
        is("the last there is", y.of(1, 2), 4);
        is("one behind it", y.of(2, 2), -1);
        is("no refusal", y.status(), 0);
        is("no refusal is counted", y.count(8) + y.count(9), 0);
    }

    private static void outNever() {
        FuseFrames x = two();
        is("no match", x.of(0, 7), -1);
        x.light(5);
        is("a match elsewhere", x.of(0, 7), -1);
        x.light(0);
        is("out", x.of(1, 7), 28);
        x.soak(0);
        is("damp", x.of(0, 7), -1);
        is("behind a damp one", x.of(1, 7), -1);
        x.light(2);
        is("from the other side", x.of(1, 7), 8);
    }

    private static void atNothing() {
        FuseFrames x = ten();
        x.light(0);
        for (int knot : NO_KNOTS) {
            is("at(" + knot + ", 0)", x.at(knot, 0), -1);
            is("at(" + knot + ", 1)", x.at(knot, 1), -1);
            is("at(" + knot + ", 2)", x.at(knot, 2), -1);
        }
        for (int what : new int[] {-1, 3, 4, -2, 256, Integer.MIN_VALUE, Integer.MAX_VALUE}) {
            is("at(0, " + what + ")", x.at(0, what), -1);
        }
        is("no refusal", x.status(), 0);
    }

    private static void matchOrNone() {
        FuseFrames x = new FuseFrames();
        is("none", x.at(7, 0), -1);
        x.light(7);
        is("in second 0", x.at(7, 0), 0);
        x.undo();
        is("none any more", x.at(7, 0), -1);
    }

    private static void fireNever() {
        FuseFrames x = two();
        is("no match", x.at(2, 2), -1);
        x.light(0);
        is("it comes", x.at(2, 2), 14);
        is("there in second 0", x.at(0, 2), 0);
        is("never", x.at(3, 2), -1);
        x.terms(0, 999);
        x.light(3);
        is("in the last second", x.at(3, 2), 999);
        x.fuse(3, 4, 60, 0);
        is("behind the last second", x.at(4, 2), 1059);
    }

    private static void letterBits() {
        FuseFrames x = ten();
        String before = state(x);
        for (int bits : new int[] {-1, 1024, 1025, -1024, 2047, 65536, Integer.MIN_VALUE, Integer.MAX_VALUE}) {
            isRefused(x, "letter(" + bits + ")", x.letter(bits), -1);
        }
        staysAsItWas("letter", x, before);
        is("without fuses", x.letter(0), 0);
        is("of all fuses", x.letter(1023), 1);
        is("of the last one", x.letter(512), 2);
        is("all of them", x.stands(255, 1), 60);
    }

    private static void thoseThatAreThere() {
        FuseFrames x = frame(0, 1, 5);
        x.letter(1 | 2 | 512);
        x.letter(2);
        is("one of three is there", x.stands(1, 0), 10);
        is("none is there", x.stands(0, 1), 0);
        x.fuse(1, 2, 7, 0);
        is("two of three are there", x.stands(1, 0), 24);
        is("now it is there", x.stands(0, 1), -1);
    }

    private static void noRoomForLetter() {
        FuseFrames x = two();
        times(3, () -> x.letter(3));
        String before = state(x);
        isRefused(x, "the fourth", x.letter(1), -5);
        isRefused(x, "the fourth, of nothing", x.letter(0), -5);
        isRefused(x, "the fourth, that can't be", x.letter(1024), -1);
        staysAsItWas("letter", x, before);
        is("as they were", x.stands(1, 2), 28);
    }

    private static void noSuchTerm() {
        FuseFrames x = two();
        x.pass();
        String before = state(x);
        for (int what : new int[] {-1, 3, 4, -2, 256, Integer.MIN_VALUE, Integer.MAX_VALUE}) {
            isRefused(x, "terms(" + what + ", 0)", x.terms(what, 0), -1);
        }
        int[] most = {999, 10, 9};
        for (int what = 0; what < 3; what++) {
            isRefused(x, "below", x.terms(what, -1), -1);
            isRefused(x, "above", x.terms(what, most[what] + 1), -1);
        }
        staysAsItWas("terms", x, before);
        is("undone still", x.undo(), 3);
    }

    // ---- 7 to 10: the tape

    private static void highestFirst() {
        FuseFrames x = new FuseFrames();
        is("how many it has", x.feed(0x00010501, 0x01023c02, 0x02033d03, 0xff000500, -1), 20);
        is("how many it has", x.feed(0x00000000, 0, 0, 0, 0x06070103), 40);
        is("three can be", x.row(), 3);
        is("the others can't", x.ash(), 7);
        is("from", x.of(0, 0) * 100 + x.of(1, 0) * 10 + x.of(2, 0), 16);
        is("to", x.of(0, 1) * 100 + x.of(1, 1) * 10 + x.of(2, 1), 127);
        is("long", x.of(0, 2) * 10000 + x.of(1, 2) * 100 + x.of(2, 2), 56001);
        is("kind", x.of(0, 3) * 100 + x.of(1, 3) * 10 + x.of(2, 3), 123);
    }

    private static void tapeIsFull() {
        FuseFrames x = new FuseFrames();
        for (int n = 20; n <= 400; n += 20) {
            is("feed", x.feed(0x20202020, 0x20202020, 0x20202020, 0x20202020, 0x20202020), n);
        }
        is("no more", x.feed(0x78787878, 0x78787878, 0x78787878, 0x78787878, 0x78787878), -1);
        is("as it was", x.count(7), 400);
        is("no refusal", x.status(), 0);
        is("cut by too few", x.end(381), 381);
        is("still too many", x.feed(0x78787878, 0x78787878, 0x78787878, 0x78787878, 0x78787878), -1);
        is("as it was", x.count(7), 381);
        is("cut by twenty", x.end(380), 380);
        is("just so many", x.feed(0x78787878, 0x78787878, 0x78787878, 0x78787878, 0x78787878), 400);
        is("a text", x.law(), -6);
        is("the first of those that came at last", x.fault(), 380);
    }

    private static void endOfTape() {
        FuseFrames x = new FuseFrames();
        is("nothing of nothing", x.end(0), 0);
        is("one of nothing", x.end(1), -1);
        tape(x, "burns 1 if second = 0");
        is("below 0", x.end(-1), -1);
        is("not so many", x.end(22), -1);
        for (int far : FAR) {
            is("far away", x.end(far), -1);
        }
        is("as it was", x.count(7), 21);
        is("all", x.end(21), 21);
        is("the first seven", x.end(7), 7);
        is("no more than those", x.end(8), -1);
        is("they are a law", x.law(), 0);
        is("nothing is left", x.count(7), 0);
        is("nothing of it", x.end(1), -1);
        is("no refusal", x.status(), 0);
        tape(x, "bars");
        tape(x, ";bars");
        is("behind what was left", x.law(), 1);
        tape(x, "bars");
        x.end(0);
        is("nothing", x.law(), -6);
    }

    private static void rowOfNothing() {
        FuseFrames x = two();
        tape(x, "\0\0\0\0\0");
        x.row();
        x.pass();
        String before = state(x);
        isRefused(x, "a new tape", x.row(), -6);
        tape(x, "abc");
        x.end(0);
        isRefused(x, "an empty tape", x.row(), -6);
        is("how often", x.count(12), 2);
        staysAsItWas("row", x, before);
    }

    private static void rowEmptiesTape() {
        FuseFrames x = new FuseFrames();
        tape(x, "\0\1\5\1" + "\1");
        is("one came", x.row(), 1);
        is("empty", x.count(7), 0);
        tape(x, "\1");
        is("none came", x.row(), 0);
        is("that is no refusal", x.status(), 0);
        is("empty", x.count(7), 0);
        isRefused(x, "nothing is left", x.row(), -6);
        tape(x, "\0\1\5\1".repeat(100));
        is("of 400 bytes", x.row(), 9);
        is("empty", x.count(7), 0);
    }

    private static void ashOfLatest() {
        FuseFrames x = new FuseFrames();
        is("ahead of any", x.ash(), 0);
        x.row();
        is("ahead of any but a refused one", x.ash(), 0);
        tape(x, "\0\0\0\0".repeat(3));
        x.row();
        is("three", x.ash(), 3);
        x.row();
        is("behind a refused one", x.ash(), 3);
        tape(x, "\0\1\5\1");
        x.row();
        is("none in the latest", x.ash(), 0);
        tape(x, "\0\1\5\1".repeat(99) + "\0\1\5");
        x.row();
        is("ninety-one of a hundred", x.ash(), 91);
    }

    // ---- 11 to 15: laws and orders

    private static void noRoomForLaw() {
        FuseFrames x = two();
        law(x, "bars x");
        times(6, () -> law(x, "burns 1"));
        is("fault of the latest that was read", x.fault(), -1);
        tape(x, "bars x");
        isRefused(x, "the seventh", x.law(), -5);
        is("the tape is empty", x.count(7), 0);
        is("it was not read", x.fault(), -1);
        isRefused(x, "of nothing", x.law(), -5);
        orders(x, "pass x");
        is("fault of the latest that was read", x.fault(), 5);
        isRefused(x, "one that could be", law(x, "burns 2"), -5);
        is("it was not read", x.fault(), 5);
        is("laws", x.count(5), 6);
        is("how often", x.count(11), 3);
    }

    private static void lawThatCantBe() {
        FuseFrames x = two();
        x.pass();
        isRefused(x, "a fault", law(x, "bars;"), -6);
        is("the tape is empty", x.count(7), 0);
        is("no law", x.count(5), 0);
        isRefused(x, "no law to be in force", x.force(0), -2);
        is("undone still", x.count(6), 1);
        is("the next", law(x, "bars"), 0);
        is("the tape is empty", x.count(7), 0);
    }

    private static void blanksAlone() {
        for (int n : new int[] {0, 1, 2, 19, 20, 21, 399, 400}) {
            FuseFrames x = new FuseFrames();
            isRefused(x, n + " blanks as a law", law(x, " ".repeat(n)), -6);
            is("fault", x.fault(), n);
            isRefused(x, n + " blanks as orders", orders(x, " ".repeat(n)), -6);
            is("fault", x.fault(), n);
            is("the tape is empty", x.count(7), 0);
        }
    }

    private static void ordersRun() {
        FuseFrames x = two();
        is("none", orders(x, "pass if 1=2"), 0);
        is("that is no refusal", x.status(), 0);
        is("the tape is empty", x.count(7), 0);
        is("most that can be", orders(x, "pass times 20;".repeat(11) + "pass times 20"), 240);
        is("second", x.count(14), 240);
        is("sixteen can be undone", x.count(6), 16);
    }

    private static void ordersThatCantBe() {
        FuseFrames x = two();
        x.soak(1);
        String before = state(x);
        tape(x, "light 0;soak 0;pass times 20;light 8");
        isRefused(x, "a knot that can't be", x.orders(), -3);
        is("stopped", x.stopped(), 3);
        is("the tape is empty", x.count(7), 0);
        orders(x, "pass if 1=2");
        staysAsItWas("orders", x, before);
        is("refused by -3 alone", x.count(8) * 100 + x.count(9) * 10 + x.count(10), 1);
        tape(x, "light 0;pass pass");
        isRefused(x, "a text that can't be", x.orders(), -6);
        is("fault", x.fault(), 13);
        is("the tape is empty", x.count(7), 0);
        is("nothing of it was run", x.count(2), 0);
    }

    private static void faultOfLatest() {
        FuseFrames x = new FuseFrames();
        is("ahead of any", x.fault(), -1);
        x.law();
        is("of nothing", x.fault(), 0);
        law(x, "bars");
        is("without", x.fault(), -1);
        orders(x, "pass 1");
        is("of orders", x.fault(), 5);
        law(x, "burns");
        is("of a law", x.fault(), 5);
        orders(x, "light 9");
        is("they could not be, but be read", x.fault(), -1);
        law(x, "x");
        x.row();
        x.light(9);
        x.feed(0, 0, 0, 0, 0);
        is("other calls read no text", x.fault(), 0);
        x.end(0);
        orders(x, "pass");
        is("without", x.fault(), -1);
    }

    private static void stoppedOfLatest() {
        FuseFrames x = new FuseFrames();
        is("ahead of any", x.stopped(), -1);
        orders(x, "pass;".repeat(11) + "light 8");
        is("the last", x.stopped(), 11);
        orders(x, "light 8;".repeat(11) + "light 8");
        is("the first", x.stopped(), 0);
        law(x, "x");
        x.light(8);
        is("other calls", x.stopped(), 0);
        orders(x, "light 0 times 2");
        is("its second time", x.stopped(), 0);
        orders(x, "pass if 1=2;light 8 if 1=2;light 8");
        is("those that were not run count", x.stopped(), 2);
        orders(x, "pass x");
        is("a fault", x.stopped(), -1);
        orders(x, "light 8");
        x.orders();
        is("a fault of nothing", x.stopped(), -1);
        orders(x, "light 8");
        orders(x, "pass");
        is("all were run", x.stopped(), -1);
    }

    private static void noSuchLaw() {
        FuseFrames x = two();
        isRefused(x, "none is there", x.force(0), -2);
        is("none of none", x.force(-1), -1);
        is("that is no refusal", x.status(), 0);
        law(x, "burns 1");
        law(x, "burns 2");
        x.force(1);
        String before = state(x);
        for (int number : new int[] {2, -2, 6, 256, -32, 32, Integer.MIN_VALUE, Integer.MAX_VALUE}) {
            isRefused(x, "force(" + number + ")", x.force(number), -2);
        }
        is("how often", x.count(9), 9);
        staysAsItWas("force", x, before);
        is("the same", x.force(1), 1);
        is("the first", x.force(0), 1);
        is("none", x.force(-1), 0);
        is("none was", x.force(-1), -1);
    }

    // ---- 16 to 20: deeds

    private static void lightThatCantBe() {
        FuseFrames x = two();
        x.terms(0, 7);
        is("second", x.light(7), 7);
        String before = state(x);
        int refused = 0;
        for (int knot : NO_KNOTS) {
            isRefused(x, "light(" + knot + ")", x.light(knot), -1);
            refused++;
        }
        is("how often", x.count(8), refused);
        isRefused(x, "a match was lit there", x.light(7), -3);
        staysAsItWas("light", x, before);
    }

    private static void matchWasLit() {
        FuseFrames x = new FuseFrames();
        is("in second 0", x.light(0), 0);
        isRefused(x, "at once again", x.light(0), -3);
        x.pass();
        isRefused(x, "a second later", x.light(0), -3);
        is("how often", x.count(10), 2);
        x.undo();
        x.undo();
        is("undone: none was", x.light(0), 0);
        x.image(0);
        orders(x, "pass;light 1");
        isRefused(x, "lit by orders", x.light(1), -3);
        x.back(0);
        is("gone back to: none was", x.light(1), 0);
    }

    private static void noSuchFuseToSoak() {
        FuseFrames x = ten();
        is("the last", x.soak(9), 1);
        String before = state(x);
        int refused = 0;
        for (int fuse : NO_FUSES) {
            isRefused(x, "soak(" + fuse + ")", x.soak(fuse), -2);
            refused++;
        }
        is("how often", x.count(9), refused);
        staysAsItWas("soak", x, before);
        FuseFrames y = two();
        isRefused(y, "one behind the last", y.soak(2), -2);
        is("the last", y.soak(1), 1);
        is("dry", y.soak(1), 0);
    }

    private static void swapWithItself() {
        FuseFrames x = two();
        String before = state(x);
        isRefused(x, "the first", x.swap(0, 0), -1);
        isRefused(x, "the last", x.swap(1, 1), -1);
        isRefused(x, "one that is not there", x.swap(2, 2), -1);
        isRefused(x, "one that can't be", x.swap(-1, -1), -1);
        is("how often", x.count(8) * 10 + x.count(9), 40);
        staysAsItWas("swap", x, before);
    }

    private static void noSuchFuseToSwap() {
        FuseFrames x = ten();
        is("the first and the last", x.swap(0, 9), 60);
        is("and back", x.swap(9, 0), 60);
        String before = state(x);
        int refused = 0;
        for (int fuse : NO_FUSES) {
            isRefused(x, "swap(0, " + fuse + ")", x.swap(0, fuse), -2);
            isRefused(x, "swap(" + fuse + ", 0)", x.swap(fuse, 0), -2);
            refused += 2;
        }
        isRefused(x, "neither is there", x.swap(10, 11), -2);
        is("how often", x.count(9), refused + 1);
        staysAsItWas("swap", x, before);
        FuseFrames y = frame(0, 1, 5);
        isRefused(y, "one alone", y.swap(0, 1), -2);
    }

    private static void noSecondIsLeft() {
        FuseFrames x = two();
        x.light(0);
        x.terms(0, 998);
        is("the last one", x.pass(), 2);
        String before = state(x);
        isRefused(x, "none is left", x.pass(), -3);
        isRefused(x, "none is left", x.pass(), -3);
        is("how often", x.count(10), 2);
        staysAsItWas("pass", x, before);
        is("undone", x.undo(), 3);
        is("the last one again", x.pass(), 2);
    }

    private static void nothingToUndo() {
        FuseFrames x = two();
        String before = state(x);
        isRefused(x, "nothing as yet", x.undo(), -3);
        staysAsItWas("undo", x, before);
        x.light(9);
        x.soak(9);
        x.swap(0, 0);
        isRefused(x, "refused ones are none", x.undo(), -3);
        x.soak(0);
        is("one", x.undo(), 1);
        isRefused(x, "not twice", x.undo(), -3);
        is("how often", x.count(10), 3);
    }

    private static void sixteenAreKept() {
        FuseFrames x = two();
        x.swap(0, 1);
        x.light(3);
        for (int i = 1; i <= 16; i++) {
            x.pass();
            is("kept", x.count(6), Math.min(16, i + 2));
        }
        for (int i = 15; i >= 0; i--) {
            is("undone", x.undo(), 3);
            is("second", x.count(14), i);
            is("left", x.count(6), i);
        }
        isRefused(x, "the seventeenth is forgotten", x.undo(), -3);
        is("the match stays", x.at(3, 0), 0);
        is("the lengths stay", x.of(0, 2), 4);
        x.soak(1);
        is("another one can be undone", x.undo(), 1);
    }

    private static void latestOfMany() {
        FuseFrames x = two();
        for (int i = 0; i < 40; i++) {
            x.soak(i % 2);
            x.pass();
        }
        for (int i = 39; i > 31; i--) {
            is("pass", x.undo(), 3);
            is("second", x.count(14), i);
            int damp = x.of(i % 2, 4);
            is("soak", x.undo(), 1);
            is("of the same fuse", x.of(i % 2, 4), 1 - damp);
        }
        isRefused(x, "no more", x.undo(), -3);
    }

    private static void swapsOfMany() {
        FuseFrames x = ten();
        for (int i = 0; i < 20; i++) {
            x.swap(i % 6, i % 6 + 1);
        }
        String before = state(x);
        orders(x, "swap 9 with 3 times 10;light done-10 times 8;soak 1 times 3;light 8");
        orders(x, "pass if 1=2");
        staysAsItWas("orders", x, before);
        for (int i = 19; i >= 4; i--) {
            int one = x.of(i % 6, 2);
            int other = x.of(i % 6 + 1, 2);
            is("swap", x.undo(), 2);
            is("the one", x.of(i % 6, 2), other);
            is("the other", x.of(i % 6 + 1, 2), one);
            is("no second", x.count(14), 0);
        }
        isRefused(x, "no more", x.undo(), -3);
    }

    private static void eachUndoneAlone() {
        FuseFrames x = two();
        x.terms(0, 5);
        x.pass();
        x.light(1);
        x.soak(1);
        x.swap(0, 1);
        is("swap", x.undo(), 2);
        is("that alone", x.of(0, 2) * 1000 + x.of(1, 4) * 100 + x.at(1, 0) * 10 + x.count(14), 10166);
        is("soak", x.undo(), 1);
        is("that alone", x.of(0, 2) * 1000 + x.of(1, 4) * 100 + x.at(1, 0) * 10 + x.count(14), 10066);
        is("light", x.undo(), 0);
        is("that alone", x.of(0, 2) * 1000 + x.of(1, 4) * 100 + x.at(1, 0) * 10 + x.count(14), 9996);
        is("pass", x.undo(), 3);
        is("that alone", x.of(0, 2) * 1000 + x.of(1, 4) * 100 + x.at(1, 0) * 10 + x.count(14), 9995);
    }

    private static void undoneByOrders() {
        FuseFrames x = two();
        x.soak(0);
        orders(x, "light 2;swap 0 with 1;pass times 2;pass if 1=2");
        is("each of them", x.count(6), 5);
        is("pass", x.undo() * 10 + x.undo(), 33);
        is("second", x.count(14), 0);
        is("swap", x.undo(), 2);
        is("long", x.of(0, 2), 10);
        is("light", x.undo(), 0);
        is("match", x.at(2, 0), -1);
        is("ahead of the orders", x.undo(), 1);
        is("damp", x.of(0, 4), 0);
        x.soak(1);
        orders(x, "pass times 20;light 9");
        is("none of orders that could not be", x.count(6), 1);
        is("what was kept ahead of them", x.undo(), 1);
    }

    private static void aheadOfAFuse() {
        FuseFrames x = two();
        x.soak(0);
        x.fuse(0, 0, 1, 0);
        is("refused by -1", x.count(6), 1);
        x.fuse(2, 3, 1, 0);
        is("it came", x.count(6), 0);
        isRefused(x, "nothing", x.undo(), -3);
        is("it stays", x.of(0, 4), 1);
        x.soak(2);
        is("behind it", x.undo(), 1);
        isRefused(x, "nothing ahead of it", x.undo(), -3);
        times(7, () -> x.fuse(0, 1, 5, 0));
        x.soak(9);
        x.fuse(0, 1, 5, 0);
        is("refused by -5", x.undo(), 1);
    }

    private static void aheadOfTerms() {
        for (int what = 0; what < 3; what++) {
            FuseFrames x = two();
            x.pass();
            x.terms(what, -1);
            is("refused", x.count(6), 1);
            x.terms(what, 1);
            is("as it may be already", x.count(6), 0);
            isRefused(x, "nothing", x.undo(), -3);
            x.soak(0);
            is("behind it", x.undo(), 1);
        }
    }

    private static void aheadOfARow() {
        FuseFrames x = two();
        x.soak(0);
        x.row();
        is("refused", x.count(6), 1);
        tape(x, "\0");
        x.row();
        is("ash alone is no refusal", x.count(6), 0);
        x.soak(0);
        tape(x, "\0\1\5\0");
        x.row();
        isRefused(x, "nothing", x.undo(), -3);
        x.soak(0);
        is("behind it", x.undo(), 1);
    }

    private static void otherCallsDoNotMatter() {
        FuseFrames x = two();
        x.soak(0);
        x.letter(1);
        law(x, "burns 5");
        law(x, "x");
        orders(x, "x");
        x.force(0);
        x.seen(0, 0);
        x.forget();
        x.evenings(0, 5);
        x.image(0);
        x.exchanged(1, 0);
        is("it can be undone", x.undo(), 1);
        is("it is", x.of(0, 4), 0);
    }

    // ---- 21 to 30: on paper

    private static void whenNever() {
        FuseFrames x = chain();
        for (int bits : NO_BITS) {
            is("when(" + bits + ", 0)", x.when(bits, 0), -1);
        }
        for (int knot : NO_KNOTS) {
            is("when(255, " + knot + ")", x.when(255, knot), -1);
        }
        is("by no match", x.when(0, 0), -1);
        is("by all", x.when(255, 7), 0);
        is("by the last alone", x.when(128, 0), 28);
        x.soak(3);
        is("never", x.when(1, 7), -1);
        is("no refusal", x.status(), 0);
    }

    private static void outOnPaper() {
        FuseFrames x = ten();
        for (int bits : NO_BITS) {
            is("out(" + bits + ", 0)", x.out(bits, 0), -1);
        }
        for (int fuse : NO_FUSES) {
            is("out(255, " + fuse + ")", x.out(255, fuse), -1);
        }
        is("by no match", x.out(0, 0), -1);
        is("by all", x.out(255, 0), 1);
        is("the last", x.out(255, 9), 60);
        x.soak(0);
        is("damp", x.out(255, 0), -1);
        is("one behind the last", two().out(1, 2), -1);
    }

    private static void standsNever() {
        FuseFrames x = two();
        is("no letters", x.stands(1, 0), -1);
        x.letter(3);
        x.letter(0);
        for (int bits : NO_BITS) {
            is("stands(" + bits + ", 1)", x.stands(bits, 1), -1);
        }
        for (int letter : new int[] {-1, 2, 3, -32, 32, Integer.MIN_VALUE, Integer.MAX_VALUE}) {
            is("stands(1, " + letter + ")", x.stands(1, letter), -1);
        }
        is("by no match", x.stands(0, 0), -1);
        is("by no match, without fuses", x.stands(0, 1), 0);
        is("by all", x.stands(255, 0), 10);
    }

    private static void bestOfNone() {
        FuseFrames x = new FuseFrames();
        for (int n = 1; n <= 3; n++) {
            is("no fuses", x.best(n, 0), 0);
            is("the lowest", x.best(n, 1), (1 << n) - 1);
        }
    }

    private static void bestThatCantBe() {
        FuseFrames x = two();
        for (int n : new int[] {0, 4, -1, 8, 256, Integer.MIN_VALUE, Integer.MAX_VALUE}) {
            is("best(" + n + ", 0)", x.best(n, 0), -1);
            is("best(" + n + ", 1)", x.best(n, 1), -1);
        }
        for (int what : NO_WHAT) {
            is("best(1, " + what + ")", x.best(1, what), -1);
        }
        is("one", x.best(1, 0) * 100 + x.best(1, 1), 2002);
        is("three", x.best(3, 0) * 100 + x.best(3, 1), 1007);
        x.soak(1);
        is("one is damp", x.best(3, 0), -1);
        is("one is damp", x.best(3, 1), -1);
        FuseFrames y = frame(0, 1, 1, 2, 3, 1);
        is("from two knots alone", y.best(1, 0), -1);
        is("from two knots", y.best(2, 0), 2);
    }

    private static void evenOfNothing() {
        FuseFrames x = two();
        is("no letters", x.even(0), -1);
        is("no letters", x.even(1), -1);
        x.letter(1);
        x.letter(2);
        is("20 and 28 from 0, 20 and 8 from 1, 8 and 28 from 2", x.even(0), 0);
        is("by how much", x.even(1), 8);
        for (int what : NO_WHAT) {
            is("even(" + what + ")", x.even(what), -1);
        }
        x.soak(0);
        is("it can't be", x.even(0), -1);
        is("it can't be", x.even(1), -1);
    }

    private static void centreOfNothing() {
        FuseFrames x = chain();
        for (int what : NO_WHAT) {
            is("centre(" + what + ")", x.centre(what), -1);
        }
        is("the knot", x.centre(0), 5);
        is("seconds", x.centre(1), 15);
        x.soak(0);
        is("it can't be", x.centre(0), -1);
        is("it can't be", x.centre(1), -1);
        is("without fuses", new FuseFrames().centre(0), -1);
    }

    private static void wayThatIsNone() {
        FuseFrames x = chain();
        for (int knot : NO_KNOTS) {
            is("way(" + knot + ", 0, -1)", x.way(knot, 0, -1), -1);
            is("way(0, " + knot + ", -1)", x.way(0, knot, -1), -1);
            is("way(0, " + knot + ", 0)", x.way(0, knot, 0), -1);
        }
        is("seconds", x.way(0, 7, -1), 28);
        for (int i = 0; i < 7; i++) {
            is("the i-th", x.way(0, 7, i), i);
            is("the i-th, the other way", x.way(7, 0, i), 6 - i);
        }
        for (int i : new int[] {7, 8, 9, 32, -2, -3, Integer.MIN_VALUE, Integer.MAX_VALUE}) {
            is("way(0, 7, " + i + ")", x.way(0, 7, i), -1);
        }
        x.soak(3);
        is("it does not come", x.way(0, 7, -1), -1);
        is("it does not come", x.way(0, 7, 0), -1);
        is("it comes there", x.way(0, 3, 2), 2);
    }

    private static void wayToItself() {
        FuseFrames x = chain();
        law(x, "holds 5");
        x.force(0);
        for (int knot = 0; knot < 8; knot++) {
            is("seconds", x.way(knot, knot, -1), 0);
            is("no fuse", x.way(knot, knot, 0), -1);
            is("no fuse", x.way(knot, knot, 1), -1);
        }
    }

    private static void cutOfOneKnot() {
        FuseFrames x = chain();
        for (int knot = 0; knot < 8; knot++) {
            is("one knot alone", x.cut(knot, knot, 0), -1);
            is("one knot alone", x.cut(knot, knot, 1), -1);
        }
        for (int knot : NO_KNOTS) {
            is("cut(" + knot + ", 0, 0)", x.cut(knot, 0, 0), -1);
            is("cut(0, " + knot + ", 1)", x.cut(0, knot, 1), -1);
            is("cut(" + knot + ", " + knot + ", 0)", x.cut(knot, knot, 0), -1);
        }
        for (int what : NO_WHAT) {
            is("cut(0, 7, " + what + ")", x.cut(0, 7, what), -1);
        }
        is("one", x.cut(0, 7, 0) * 1000 + x.cut(0, 7, 1), 1001);
        x.soak(6);
        is("it does not come anyway", x.cut(0, 7, 0) * 1000 + x.cut(0, 7, 1), 0);
        is("without fuses", new FuseFrames().cut(0, 1, 0), 0);
    }

    private static void exchangedNotSooner() {
        FuseFrames x = frame(0, 1, 20, 1, 2, 3, 1, 3, 2);
        for (int knot : NO_KNOTS) {
            is("exchanged(" + knot + ", 0)", x.exchanged(knot, 0), -1);
        }
        for (int what : NO_WHAT) {
            is("exchanged(0, " + what + ")", x.exchanged(0, what), -1);
        }
        is("sooner", x.exchanged(0, 0) * 1000 + x.exchanged(0, 1), 2044);
        is("not from 1: 40 at best", x.exchanged(1, 0), -1);
        x.swap(0, 2);
        is("not sooner", x.exchanged(0, 0), -1);
        is("not sooner", x.exchanged(0, 1), -1);
        is("no fuses", new FuseFrames().exchanged(0, 1), -1);
    }

    private static void exchangedNotAllOut() {
        FuseFrames x = frame(0, 1, 20, 1, 2, 3, 1, 3, 2);
        is("from where no fire comes", x.exchanged(7, 0), -1);
        x.fuse(5, 6, 1, 0);
        is("one is apart", x.exchanged(0, 0), -1);
        x = frame(0, 1, 20, 1, 2, 3, 1, 3, 2);
        law(x, "bars if fuse = 0 and long = 20");
        x.force(0);
        is("not all are out now, though they would be", x.exchanged(0, 0), -1);
        is("not all are out now, though they would be", x.exchanged(0, 1), -1);
        law(x, "bars if fuse = 0 and long = 2");
        x.force(1);
        is("they would not be", x.exchanged(0, 0), -1);
        is("as it was", x.of(0, 2) * 100 + x.of(2, 2), 2002);
    }

    private static void spansTooLong() {
        FuseFrames x = frame(0, 1, 60, 1, 2, 60, 2, 3, 60, 3, 4, 20, 3, 5, 20, 4, 5, 1);
        is("out at 401", x.out(1, 5), 401);
        is("401 is too long", x.measured(401, 0), -1);
        is("401 is too long", x.measured(401, 1), -1);
        is("400", x.measured(400, 0), 0);
        is("two such", x.measured(400, 1), 2);
        is("1", x.measured(1, 0), 0);
        is("two such", x.measured(1, 1), 2);
        for (int h : new int[] {0, -1, -2, -400, 402, 65936, Integer.MIN_VALUE, Integer.MAX_VALUE}) {
            is("measured(" + h + ", 0)", x.measured(h, 0), -1);
            is("measured(" + h + ", 1)", x.measured(h, 1), -1);
        }
        for (int what : NO_WHAT) {
            is("measured(1, " + what + ")", x.measured(1, what), -1);
        }
        is("none so long", x.measured(399, 0), -1);
        is("none so long", x.measured(399, 1), -1);
    }

    // ---- 31 to 37: what was seen, what is likely

    private static void seenThatCantBe() {
        FuseFrames x = two();
        x.seen(2, 14);
        String before = state(x);
        for (int knot : NO_KNOTS) {
            isRefused(x, "seen(" + knot + ", 0)", x.seen(knot, 0), -1);
        }
        for (int seconds : new int[] {-1, 1000, 1001, -999, Integer.MIN_VALUE, Integer.MAX_VALUE}) {
            isRefused(x, "seen(0, " + seconds + ")", x.seen(0, seconds), -1);
        }
        is("how often", x.count(8), NO_KNOTS.length + 6);
        staysAsItWas("seen", x, before);
        is("it was at 0", x.was(), 1);
    }

    private static void noRoomForSeen() {
        FuseFrames x = two();
        for (int i = 1; i <= 6; i++) {
            is("how often", x.seen(2, 14), i);
        }
        String before = state(x);
        isRefused(x, "the seventh", x.seen(0, 0), -5);
        isRefused(x, "one that can't be", x.seen(0, 1000), -1);
        staysAsItWas("seen", x, before);
        x.forget();
        is("there is room again", x.seen(0, 0), 1);
    }

    private static void forgetNothing() {
        FuseFrames x = two();
        is("nothing", x.forget(), 0);
        times(6, () -> x.seen(1, 1));
        x.light(9);
        is("six", x.forget(), 6);
        is("nothing is left", x.count(4), 0);
        is("it could be everywhere", x.was(), 255);
        is("nothing again", x.forget(), 0);
        is("status is of other calls", x.status(), -1);
    }

    private static void wasNowhere() {
        FuseFrames x = two();
        is("everywhere", x.was(), 255);
        x.seen(7, 0);
        is("the last knot", x.was(), 128);
        x.seen(7, 999);
        is("nowhere", x.was(), 0);
        x.forget();
        x.seen(2, 14);
        is("from 0", x.was(), 1);
        x.soak(0);
        is("as it is now", x.was(), 0);
    }

    private static void lookNowhere() {
        FuseFrames x = two();
        for (int what : NO_WHAT) {
            is("look(" + what + ")", x.look(what), -1);
        }
        x.seen(7, 1);
        is("it was none", x.look(0), -1);
        is("it was none", x.look(1), -1);
        x.forget();
        x.seen(7, 0);
        is("it was one: the lowest", x.look(0), 0);
        is("one is left", x.look(1), 1);
        x.forget();
        x.seen(0, 0);
        is("it was at the first knot", x.look(0) * 10 + x.look(1), 1);
    }

    private static void wetThatCantBe() {
        FuseFrames x = two();
        for (int knot : NO_KNOTS) {
            is("wet(" + knot + ", 0, 0)", x.wet(knot, 0, 0), -1);
            is("wet(0, " + knot + ", -1)", x.wet(0, knot, -1), -1);
        }
        for (int seconds : new int[] {-2, 1000, 1001, -999, Integer.MIN_VALUE, Integer.MAX_VALUE}) {
            is("wet(0, 2, " + seconds + ")", x.wet(0, 2, seconds), -1);
        }
        is("never", x.wet(0, 2, -1), 3);
        is("at once", x.wet(0, 2, 0), 0);
        is("the latest", x.wet(0, 2, 999), 0);
        is("without fuses", new FuseFrames().wet(0, 1, -1), 0);
        is("the state is as it was", x.count(1), 0);
    }

    private static void fewThatCantBe() {
        FuseFrames x = new FuseFrames();
        for (int k : new int[] {0, 21, -1, 22, -20, 256, Integer.MIN_VALUE, Integer.MAX_VALUE}) {
            is("few(" + k + ", 1)", x.few(k, 1), -1);
        }
        for (int n : new int[] {-1, 100, 101, -99, 256, Integer.MIN_VALUE, Integer.MAX_VALUE}) {
            is("few(1, " + n + ")", x.few(1, n), -1);
        }
        is("the fewest of none", x.few(1, 0), 1000000000000L);
        is("the most of none", x.few(20, 0), 1000000000000L);
        is("the fewest of the most", x.few(1, 99), 29512660L);
        is("the most of the most", x.few(20, 99), 998255635351L);
        is("fewer than one of one", x.few(1, 1), 900000000000L);
        is("fewer than two of one", x.few(2, 1), 1000000000000L);
    }

    private static void compareNothing() {
        FuseFrames x = two();
        is("no law is there", x.compare(0, 0), -1);
        law(x, "burns 60");
        law(x, "bars if fuse = 1");
        for (int number : new int[] {-2, 2, 6, -32, 32, Integer.MIN_VALUE, Integer.MAX_VALUE}) {
            is("compare(" + number + ", 0)", x.compare(number, 0), -1);
        }
        for (int knot : NO_KNOTS) {
            is("compare(0, " + knot + ")", x.compare(0, knot), -1);
        }
        is("none", x.compare(-1, 0), 28);
        is("the first", x.compare(0, 2), 240);
        is("not all are out", x.compare(1, 0), -1);
        is("from where no fire comes", x.compare(0, 7), -1);
        is("without fuses all are out", new FuseFrames().compare(-1, 7), 0);
        is("none is in force", x.count(13), -1);
    }

    // ---- 38 to 43: evenings, images, counts

    private static void eveningsThatCantBe() {
        FuseFrames x = two();
        x.evenings(3, 2);
        is("a match", x.drawn(0, 1), 0);
        String before = state(x);
        for (int seed : new int[] {-1, 1000001, 1000003, Integer.MIN_VALUE, Integer.MAX_VALUE}) {
            isRefused(x, "evenings(" + seed + ", 1)", x.evenings(seed, 1), -1);
        }
        for (int n : new int[] {0, 61, -1, 316, Integer.MIN_VALUE, Integer.MAX_VALUE}) {
            isRefused(x, "evenings(0, " + n + ")", x.evenings(0, n), -1);
        }
        is("how often", x.count(8), 11);
        staysAsItWas("evenings", x, before);
        is("the latest are as they were", x.drawn(0, 1), 0);
        is("the latest are as they were", x.drawn(0, 0), 1);
    }

    private static void eveningsWithoutFuses() {
        FuseFrames x = new FuseFrames();
        isRefused(x, "no fuses", x.evenings(0, 1), -3);
        isRefused(x, "no fuses, no evenings", x.evenings(0, 0), -1);
        is("none are kept", x.drawn(1, 1), -1);
        x.image(0);
        x.fuse(0, 1, 5, 0);
        is("one fuse", x.evenings(0, 1), 0);
        is("kept", x.drawn(1, 1), 0);
        x.back(0);
        isRefused(x, "no fuses any more", x.evenings(1000000, 60), -3);
        is("the latest are as they were", x.drawn(1, 1), 0);
    }

    private static void outBehindEvenings() {
        FuseFrames x = frame(0, 1, 5);
        is("a match at 1, behind it four seconds", x.evenings(0, 4), 0);
        is("five seconds", x.evenings(0, 5), 1);
        is("soaked", x.evenings(0, 6), 0);
        x.terms(0, 999);
        is("at the last second no match", x.evenings(0, 60), 0);
        x.terms(0, 990);
        x.light(0);
        x.terms(0, 999);
        is("as it stands", x.evenings(0, 60), 1);
    }

    private static void drawnOfNothing() {
        FuseFrames x = ten();
        for (int k = 0; k < 10; k++) {
            is("ahead of any, damp", x.drawn(k, 0), -1);
            is("ahead of any, match", x.drawn(k, 1), -1);
        }
        x.soak(9);
        x.light(7);
        x.evenings(1, 1);
        is("the last fuse", x.drawn(9, 0), 1);
        is("the first fuse", x.drawn(0, 0), 0);
        is("the last knot", x.drawn(7, 1), 0);
        is("no match", x.drawn(0, 1), -1);
        for (int fuse : NO_FUSES) {
            is("drawn(" + fuse + ", 0)", x.drawn(fuse, 0), -1);
        }
        for (int knot : NO_KNOTS) {
            is("drawn(" + knot + ", 1)", x.drawn(knot, 1), -1);
        }
        for (int what : NO_WHAT) {
            is("drawn(7, " + what + ")", x.drawn(7, what), -1);
        }
        FuseFrames y = two();
        y.evenings(1, 1);
        is("a fuse that is not there", y.drawn(2, 0), -1);
    }

    private static void imageThatCantBe() {
        FuseFrames x = two();
        for (int k : new int[] {-1, 2, 3, -2, 256, Integer.MIN_VALUE, Integer.MAX_VALUE}) {
            isRefused(x, "image(" + k + ")", x.image(k), -1);
        }
        is("how often", x.count(8), 7);
        isRefused(x, "none was kept", x.back(0), -2);
        isRefused(x, "none was kept", x.back(1), -2);
        is("the first", x.image(0), 0);
        is("the last", x.image(1), 0);
        is("no refusal", x.status(), 0);
        is("kept over the other", x.image(1), 0);
    }

    private static void backThatCantBe() {
        FuseFrames x = two();
        x.soak(0);
        x.image(1);
        x.soak(1);
        String before = state(x);
        for (int k : new int[] {-1, 2, 3, -2, 256, Integer.MIN_VALUE, Integer.MAX_VALUE}) {
            isRefused(x, "back(" + k + ")", x.back(k), -1);
        }
        isRefused(x, "it was not kept", x.back(0), -2);
        is("how often", x.count(8) * 10 + x.count(9), 71);
        staysAsItWas("back", x, before);
        is("undone still", x.undo(), 1);
        is("the other was kept", x.back(1), 0);
        is("one is damp", x.of(0, 4) * 10 + x.of(1, 4), 10);
        is("of an empty frame", new FuseFrames().back(1), -2);
    }

    private static void countsOfNothing() {
        FuseFrames x = new FuseFrames();
        int[] due = {0, 0, 0, 0, 0, 0, 0, 0, 0, 0, 0, 0, 0, -1, 0, 1, 0, 0};
        for (int what = 0; what < due.length; what++) {
            is("count(" + what + ")", x.count(what), due[what]);
        }
        for (int what : new int[] {-1, 18, 19, -2, 256, Integer.MIN_VALUE, Integer.MAX_VALUE}) {
            is("count(" + what + ")", x.count(what), -1);
        }
    }

    private static void countsOfAll() {
        FuseFrames x = ten();
        for (int fuse = 0; fuse < 10; fuse++) {
            x.soak(fuse);
        }
        for (int knot = 0; knot < 8; knot++) {
            x.light(knot);
        }
        times(3, () -> x.letter(1));
        times(6, () -> x.seen(1, 1));
        times(6, () -> law(x, "bars"));
        x.force(5);
        times(20, () -> x.feed(0, 0, 0, 0, 0));
        int[] due = {10, 10, 8, 3, 6, 6, 16, 400, 0, 0, 0, 0, 0, 5, 0, 1, 0, 0};
        for (int what = 0; what < due.length; what++) {
            is("count(" + what + ")", x.count(what), due[what]);
        }
        FuseFrames y = ten();
        for (int knot = 0; knot < 8; knot++) {
            y.light(knot);
        }
        y.terms(0, 999);
        y.terms(1, 10);
        y.terms(2, 9);
        is("all are out by now", y.count(17), 10);
        is("terms", y.count(14) * 1000 + y.count(15) * 10 + y.count(16), 999109);
    }

    private static void countsOfRefusals() {
        FuseFrames x = two();
        x.image(0);
        x.light(8);
        times(2, () -> x.force(3));
        times(3, () -> x.undo());
        times(3, () -> x.letter(0));
        times(4, () -> x.letter(0));
        times(5, () -> x.row());
        x.feed(0, 0, 0, 0, 0);
        x.end(-1);
        x.of(-1, 0);
        x.when(-1, 0);
        x.few(0, 0);
        int[] due = {1, 2, 3, 4, 5};
        for (int i = 0; i < due.length; i++) {
            is("count(" + (8 + i) + ")", x.count(8 + i), due[i]);
        }
        x.back(0);
        for (int i = 0; i < due.length; i++) {
            is("images do not keep count(" + (8 + i) + ")", x.count(8 + i), due[i]);
        }
    }

    private static void statusOfOthers() {
        FuseFrames x = two();
        x.light(8);
        x.of(0, 0);
        x.at(0, 0);
        x.feed(0, 0, 0, 0, 0);
        x.end(0);
        x.ash();
        x.fault();
        x.stopped();
        x.when(1, 0);
        x.out(1, 0);
        x.stands(1, 0);
        x.best(1, 0);
        x.even(0);
        x.centre(0);
        x.way(0, 1, 0);
        x.cut(0, 1, 0);
        x.exchanged(0, 0);
        x.measured(1, 0);
        x.forget();
        x.was();
        x.look(0);
        x.wet(0, 1, 0);
        x.few(1, 1);
        x.compare(-1, 0);
        x.drawn(0, 0);
        x.count(0);
        is("they leave it", x.status(), -1);
        is("asked again", x.status(), -1);
        x.soak(0);
        x.of(-1, -1);
        x.feed(0, 0, 0, 0, 0);
        x.end(-1);
        x.few(0, 0);
        is("they do not set it", x.status(), 0);
    }

    private static void statusIs(String call, FuseFrames x, Runnable refused, int by, Runnable fine) {
        refused.run();
        is(call + " refused", x.status(), by);
        fine.run();
        is(call + " not refused", x.status(), 0);
    }

    private static void statusOfEach() {
        FuseFrames x = new FuseFrames();
        is("ahead of any", x.status(), 0);
        statusIs("evenings", x, () -> x.evenings(0, 1), -3, () -> x.fuse(0, 1, 5, 0));
        statusIs("fuse", x, () -> x.fuse(0, 0, 5, 0), -1, () -> x.fuse(1, 2, 5, 0));
        statusIs("letter", x, () -> x.letter(-1), -1, () -> x.letter(1));
        statusIs("terms", x, () -> x.terms(0, -1), -1, () -> x.terms(0, 0));
        statusIs("row", x, () -> x.row(), -6, () -> {
            tape(x, "\0");
            x.row();
        });
        statusIs("law", x, () -> law(x, "x"), -6, () -> law(x, "bars if 1=2"));
        statusIs("orders", x, () -> orders(x, "x"), -6, () -> orders(x, "pass"));
        statusIs("orders", x, () -> orders(x, "light 8"), -3, () -> orders(x, "pass if 1=2"));
        statusIs("force", x, () -> x.force(1), -2, () -> x.force(0));
        statusIs("light", x, () -> x.light(8), -1, () -> x.light(0));
        statusIs("light", x, () -> x.light(0), -3, () -> x.light(1));
        statusIs("soak", x, () -> x.soak(2), -2, () -> x.soak(1));
        statusIs("swap", x, () -> x.swap(1, 1), -1, () -> x.swap(0, 1));
        statusIs("swap", x, () -> x.swap(0, 2), -2, () -> x.pass());
        statusIs("undo", x, () -> x.light(8), -1, () -> x.undo());
        statusIs("seen", x, () -> x.seen(8, 0), -1, () -> x.seen(0, 0));
        statusIs("evenings", x, () -> x.evenings(-1, 1), -1, () -> x.evenings(0, 1));
        statusIs("image", x, () -> x.image(2), -1, () -> x.image(0));
        statusIs("back", x, () -> x.back(1), -2, () -> x.back(0));
        statusIs("undo", x, () -> x.undo(), -3, () -> x.pass());
        x.terms(0, 999);
        statusIs("pass", x, () -> x.pass(), -3, () -> x.terms(0, 0));
        times(5, () -> law(x, "bars"));
        statusIs("law", x, () -> law(x, "bars"), -5, () -> x.force(-1));
    }

    public static void main(String[] args) {
        frameEdges();
        tapeEdges();
        deedEdges();
        paperEdges();
        guessEdges();
        keptEdges();
        finish();
    }

    private static void frameEdges() {
        edge("1", "A frame without fuses.", EdgesOfPromisesTest::withoutFuses);
        edge("2", "A FUSE: its number. -1 (FROM is TO, too)", EdgesOfPromisesTest::fuseThatCantBe);
        edge("2", "-1 (FROM is TO, too); -5.", EdgesOfPromisesTest::noRoomForFuse);
        edge("3", "(7; NONE: never). NONE.", EdgesOfPromisesTest::ofNothing);
        edge("3", "when it is OUT by MATCHES there are (7; NONE: never)", EdgesOfPromisesTest::outNever);
        edge("4", "(2; NONE: never). NONE.", EdgesOfPromisesTest::atNothing);
        edge("4", "the SECOND of its MATCH (what 0; NONE)", EdgesOfPromisesTest::matchOrNone);
        edge("4", "the SECOND in which fire comes by MATCHES there are (2; NONE: never)", EdgesOfPromisesTest::fireNever);
        edge("5", "A LETTER of FUSES 0 .. 9", EdgesOfPromisesTest::letterBits);
        edge("5", "(as bits, those that are there count)", EdgesOfPromisesTest::thoseThatAreThere);
        edge("5", "its number. -1; -5.", EdgesOfPromisesTest::noRoomForLetter);
        edge("6", "A TERM: what it was. -1.", EdgesOfPromisesTest::noSuchTerm);
    }

    private static void tapeEdges() {
        edge("7", "four of each number, the highest first: how many it has.", EdgesOfPromisesTest::highestFirst);
        edge("7", "NONE, if there would be more than 400.", EdgesOfPromisesTest::tapeIsFull);
        edge("8", "NONE, if it has not so many, or n is below 0.", EdgesOfPromisesTest::endOfTape);
        edge("9", "-6 the TAPE is empty.", EdgesOfPromisesTest::rowOfNothing);
        edge("9", "A ROW, the TAPE is empty then: how many FUSES came.", EdgesOfPromisesTest::rowEmptiesTape);
        edge("10", "in the latest row() that was not REFUSED (0 ahead of any).", EdgesOfPromisesTest::ashOfLatest);
        edge("11", "-5 (ahead of reading it; the TAPE is empty then, too)", EdgesOfPromisesTest::noRoomForLaw);
        edge("11", "The TAPE, which is empty then, becomes a LAW: its number.", EdgesOfPromisesTest::lawThatCantBe);
        edge("11", "-6 (blanks alone: FAULT at the end).", EdgesOfPromisesTest::blanksAlone);
        edge("12", "ORDERS, the TAPE is empty then: how many were run.", EdgesOfPromisesTest::ordersRun);
        edge("12", "-3 one can't be; -6 (as for law()).", EdgesOfPromisesTest::ordersThatCantBe);
        edge("13", "FAULT of the latest law(), orders() that read a TEXT: its place; NONE without.",
                EdgesOfPromisesTest::faultOfLatest);
        edge("14", "Which CLAUSE of the latest orders() could not be. NONE.", EdgesOfPromisesTest::stoppedOfLatest);
        edge("15", "A LAW is in FORCE (NONE: none): which was. -2.", EdgesOfPromisesTest::noSuchLaw);
    }

    private static void deedEdges() {
        edge("16", "To LIGHT: SECOND. -1", EdgesOfPromisesTest::lightThatCantBe);
        edge("16", "-3 a MATCH was lit there.", EdgesOfPromisesTest::matchWasLit);
        edge("17", "To SOAK: whether it is DAMP then (1, 0). -2.", EdgesOfPromisesTest::noSuchFuseToSoak);
        edge("18", "-1 (itself)", EdgesOfPromisesTest::swapWithItself);
        edge("18", "To SWAP: how LONG the one is then. -1 (itself); -2.", EdgesOfPromisesTest::noSuchFuseToSwap);
        edge("19", "A SECOND: how many FUSES are OUT by then. -3.", EdgesOfPromisesTest::noSecondIsLeft);
        edge("20", "-3 there is none", EdgesOfPromisesTest::nothingToUndo);
        edge("20", "16 are kept", EdgesOfPromisesTest::sixteenAreKept);
        edge("20", "The latest light(), soak(), swap(), pass()", EdgesOfPromisesTest::latestOfMany);
        edge("20", "swap(), pass() (by ORDERS, too; 16 are kept)", EdgesOfPromisesTest::swapsOfMany);
        edge("20", "is undone: 0 .. 3.", EdgesOfPromisesTest::eachUndoneAlone);
        edge("20", "by ORDERS, too", EdgesOfPromisesTest::undoneByOrders);
        edge("20", "nothing that was ahead of a fuse()", EdgesOfPromisesTest::aheadOfAFuse);
        edge("20", "nothing that was ahead of a fuse(), terms()", EdgesOfPromisesTest::aheadOfTerms);
        edge("20", "nothing that was ahead of a fuse(), terms(), row() that was not REFUSED can be undone",
                EdgesOfPromisesTest::aheadOfARow);
        edge("20", "can be undone", EdgesOfPromisesTest::otherCallsDoNotMatter);
    }

    private static void paperEdges() {
        edge("21", "By matches at KNOTS 0 .. 255 as bits, how many SECONDS on fire comes to a KNOT. NONE.",
                EdgesOfPromisesTest::whenNever);
        edge("22", "Then, when a FUSE is OUT. NONE.", EdgesOfPromisesTest::outOnPaper);
        edge("23", "Then, when a LETTER STANDS. NONE.", EdgesOfPromisesTest::standsNever);
        edge("24", "when all are OUT (what 0; no FUSES: 0)", EdgesOfPromisesTest::bestOfNone);
        edge("24", "BEST for n 1 .. 3", EdgesOfPromisesTest::bestThatCantBe);
        edge("25", "NONE (no LETTERS; it can't be).", EdgesOfPromisesTest::evenOfNothing);
        edge("26", "how many SECONDS (1). NONE (it can't be).", EdgesOfPromisesTest::centreOfNothing);
        edge("27", "how many SECONDS (i NONE), the i-th FUSE. NONE (it does not come", EdgesOfPromisesTest::wayThatIsNone);
        edge("27", "there: no FUSE", EdgesOfPromisesTest::wayToItself);
        edge("28", "NONE (one KNOT alone).", EdgesOfPromisesTest::cutOfOneKnot);
        edge("29", "NONE (not sooner", EdgesOfPromisesTest::exchangedNotSooner);
        edge("29", "not all are OUT now", EdgesOfPromisesTest::exchangedNotAllOut);
        edge("30", "MEASURED of h 1 .. 400: the KNOT (what 0), how many twos (1). NONE.", EdgesOfPromisesTest::spansTooLong);
    }

    private static void guessEdges() {
        edge("31", "SEEN: how often there was. -1", EdgesOfPromisesTest::seenThatCantBe);
        edge("31", "SEEN: how often there was. -1; -5.", EdgesOfPromisesTest::noRoomForSeen);
        edge("32", "SEEN is nothing then: how often there was.", EdgesOfPromisesTest::forgetNothing);
        edge("33", "IT WAS, as bits.", EdgesOfPromisesTest::wasNowhere);
        edge("34", "how many are left at most (1). NONE (it was none).", EdgesOfPromisesTest::lookNowhere);
        edge("35", "WET, as bits (seconds NONE .. 999). NONE.", EdgesOfPromisesTest::wetThatCantBe);
        edge("36", "FEW, k 1 .. 20, n 0 .. 99. NONE.", EdgesOfPromisesTest::fewThatCantBe);
        edge("37", "COMPARED. NONE (no such LAW, KNOT; not all are OUT).", EdgesOfPromisesTest::compareNothing);
    }

    private static void keptEdges() {
        edge("38", "EVENINGS, kept as the latest: how many FUSES are OUT behind them. -1", EdgesOfPromisesTest::eveningsThatCantBe);
        edge("38", "-3 there are no FUSES.", EdgesOfPromisesTest::eveningsWithoutFuses);
        edge("38", "how many FUSES are OUT behind them", EdgesOfPromisesTest::outBehindEvenings);
        edge("39", "whether FUSE k is DAMP (what 0: 1, 0), the SECOND of KNOT k's MATCH (1; NONE). NONE.",
                EdgesOfPromisesTest::drawnOfNothing);
        edge("40", "IMAGE k is kept: 0; -1.", EdgesOfPromisesTest::imageThatCantBe);
        edge("41", "BACK to IMAGE k: 0. -1; -2 it was not kept.", EdgesOfPromisesTest::backThatCantBe);
        edge("42", "6 how many can be undone, 7 bytes of the TAPE", EdgesOfPromisesTest::countsOfAll);
        edge("42", "17 how many FUSES are OUT by now. NONE for others.", EdgesOfPromisesTest::countsOfNothing);
        edge("42", "8 .. 12 how many calls were REFUSED by -1, -2, -3, -5, -6 (IMAGES do not keep that)",
                EdgesOfPromisesTest::countsOfRefusals);
        edge("43", "was REFUSED by; 0 if it was not, or ahead of any.", EdgesOfPromisesTest::statusOfEach);
        edge("43", "What the latest call of fuse, letter, terms, row, law, orders, force, light, soak, swap, pass, undo, seen,"
                + " evenings, image, back was REFUSED by", EdgesOfPromisesTest::statusOfOthers);
    }
}
