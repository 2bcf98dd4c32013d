/**
 * "What it is" and the terms I to IV of the document, sentence by sentence: whatever is too small, too
 * large, empty, full, wrapped around or refused there has a test of its own here.
 */
public final class EdgesOfTermsTest extends Checks {

    // ---- what it is, the constants

    private static void lastOfAllCalls() {
        FuseFrames x = frame(0, 1, 5, 1, 2, 5);
        times(509, () -> x.soak(1));
        is("the 512th call", x.soak(1), 0);
    }

    private static void none() {
        is("NONE", FuseFrames.NONE, -1);
    }

    // ---- I

    private static void knots() {
        FuseFrames x = new FuseFrames();
        is("from the first to the last", x.fuse(0, 7, 5, 0), 0);
        is("from the last to the first", x.fuse(7, 0, 5, 0), 1);
        is("from ahead of the first", x.fuse(-1, 0, 5, 0), -1);
        is("from behind the last", x.fuse(8, 0, 5, 0), -1);
        is("to ahead of the first", x.fuse(0, -1, 5, 0), -1);
        is("to behind the last", x.fuse(0, 8, 5, 0), -1);
        is("a match at the first", x.light(0), 0);
        is("a match at the last", x.light(7), 0);
        for (int far : FAR) {
            is("from far away", x.fuse(far, 0, 5, 0), -1);
            is("to far away", x.fuse(0, far, 5, 0), -1);
        }
    }

    private static void tenFuses() {
        FuseFrames x = new FuseFrames();
        for (int i = 0; i < 10; i++) {
            is("a fuse", x.fuse(i % 8, (i + 1) % 8, i + 1, i % 4), i);
        }
        is("the last", x.of(9, 2), 10);
        is("the eleventh", x.fuse(0, 1, 5, 0), -5);
        is("there is no eleventh", x.of(10, 2), -1);
        is("how many", x.count(0), 10);
    }

    private static void anotherKnot() {
        FuseFrames x = new FuseFrames();
        for (int knot = 0; knot < 8; knot++) {
            is("from a knot to itself", x.fuse(knot, knot, 5, 0), -1);
        }
        is("none came", x.count(0), 0);
        is("two between the same knots", x.fuse(0, 1, 5, 0) + x.fuse(0, 1, 5, 0) + x.fuse(1, 0, 5, 0), 0 + 1 + 2);
    }

    private static void lengths() {
        FuseFrames x = new FuseFrames();
        is("too short", x.fuse(0, 1, 0, 0), -1);
        is("below 0", x.fuse(0, 1, -1, 0), -1);
        is("too long", x.fuse(0, 1, 61, 0), -1);
        is("the shortest", x.fuse(0, 1, 1, 0), 0);
        is("the longest", x.fuse(0, 1, 60, 0), 1);
        is("as short", x.of(0, 2), 1);
        is("as long", x.of(1, 2), 60);
        for (int far : FAR) {
            is("far too long or short", x.fuse(0, 1, far, 0), -1);
        }
    }

    private static void kinds() {
        FuseFrames x = new FuseFrames();
        is("below", x.fuse(0, 1, 5, -1), -1);
        is("above", x.fuse(0, 1, 5, 4), -1);
        is("the first", x.fuse(0, 1, 5, 0), 0);
        is("the last", x.fuse(0, 1, 5, 3), 1);
        is("as told", x.of(0, 3) * 10 + x.of(1, 3), 3);
        for (int far : FAR) {
            is("far away", x.fuse(0, 1, 5, far), -1);
        }
    }

    private static void notDampAtFirst() {
        FuseFrames x = new FuseFrames();
        x.image(0);
        x.fuse(0, 1, 5, 0);
        is("a fuse", x.of(0, 4), 0);
        x.soak(0);
        x.back(0);
        x.fuse(0, 1, 5, 0);
        is("another one with the number of a damp one", x.of(0, 4), 0);
        tape(x, "\0\1\5\1");
        x.row();
        is("one of a row", x.of(1, 4), 0);
        is("damp ones", x.count(1), 0);
    }

    private static void noMatchAtFirst() {
        FuseFrames x = new FuseFrames();
        for (int knot = 0; knot < 8; knot++) {
            is("match", x.at(knot, 0), -1);
        }
        is("matches", x.count(2), 0);
    }

    private static void threeLetters() {
        FuseFrames x = two();
        is("none as yet", x.stands(1, 0), -1);
        for (int i = 0; i < 3; i++) {
            is("a letter", x.letter(i), i);
        }
        is("the fourth", x.letter(3), -5);
        is("how many", x.count(3), 3);
        is("the last", x.stands(1, 2), 28);
        is("there is no fourth", x.stands(1, 3), -1);
    }

    private static void sixSeen() {
        FuseFrames x = two();
        for (int i = 1; i <= 6; i++) {
            is("seen", x.seen(2, 4), i);
        }
        is("the seventh", x.seen(7, 7), -5);
        is("how often", x.count(4), 6);
        is("the seventh was not seen", x.was(), 2);
    }

    private static void secondsSeen() {
        FuseFrames x = two();
        is("ahead of the match", x.seen(0, -1), -1);
        is("too late", x.seen(0, 1000), -1);
        is("with the match", x.seen(0, 0), 1);
        is("it was there", x.was(), 1);
        is("the latest", x.seen(0, 999), 2);
        is("both can't be", x.was(), 0);
        for (int far : FAR) {
            is("far away", x.seen(0, far), -1);
        }
    }

    private static void term(int what, int most, int atFirst) {
        FuseFrames x = new FuseFrames();
        is("at first", x.count(14 + what), atFirst);
        is("too low", x.terms(what, -1), -1);
        is("too high", x.terms(what, most + 1), -1);
        is("as it was", x.count(14 + what), atFirst);
        is("the highest", x.terms(what, most), atFirst);
        is("it is", x.count(14 + what), most);
        is("the lowest", x.terms(what, 0), most);
        is("it is", x.count(14 + what), 0);
        for (int far : FAR) {
            is("far away", x.terms(what, far), -1);
        }
    }

    private static void firstRefusal() {
        FuseFrames x = new FuseFrames();
        is("-1 ahead of -3: evenings", x.evenings(-1, 1), -1);
        is("-1 ahead of -2: swap", x.swap(3, 3), -1);
        is("-1 ahead of -2: back", x.back(2), -1);
        for (int i = 0; i < 10; i++) {
            x.fuse(0, 1, 5, 0);
        }
        is("-1 ahead of -5: fuse", x.fuse(1, 1, 5, 0), -1);
        times(3, () -> x.letter(0));
        is("-1 ahead of -5: letter", x.letter(-1), -1);
        times(6, () -> x.seen(0, 0));
        is("-1 ahead of -5: seen", x.seen(8, 0), -1);
        times(6, () -> law(x, "bars"));
        is("-5 ahead of -6: law", law(x, "x"), -5);
        is("-5 ahead of -6: law of nothing", x.law(), -5);
    }

    // ---- II: texts

    private static void tapeOfFourHundred() {
        FuseFrames x = new FuseFrames();
        times(19, () -> x.feed(0x20202020, 0x20202020, 0x20202020, 0x20202020, 0x20202020));
        is("just 400", x.feed(0x20202020, 0x20202020, 0x20202020, 0x20202020, 0x62617273), 400);
        is("no more", x.feed(0, 0, 0, 0, 0), -1);
        is("a text of 400 bytes", x.law(), 0);
        faultOfLaw(" ".repeat(396) + "barx", 396);
        faultOfLaw(" ".repeat(400), 400);
        faultOfLaw("burns" + " ".repeat(395), 400);
        faultOfLaw("(".repeat(400), 0);
        faultOfLaw("a1".repeat(200), 0);
        FuseFrames y = new FuseFrames();
        for (int i = 0; i < 20; i++) {
            is("one of many texts", orders(y, "pass if 0" + "+1".repeat(48) + "=48"), 1);
        }
    }

    private static void tokens() {
        readsLaw("burns1if1=1and2<3;holds[2]if not(1=2)");
        readsLaw("   bars   if   1   =   1   ");
        faultOfLaw("bu rns 1", 0);
        faultOfLaw("burns 1 0", 8);
        faultOfLaw("burnslong", 0);
        faultOfLaw("barsbars", 0);
        faultOfLaw("bar", 0);
        faultOfLaw("bars if 1 < = 2", 12);
        faultOfLaw("bars if 1<>2", 10);
        faultOfLaw("burns longlong", 6);
        faultOfLaw("burns 12long", 8);
    }

    private static void lettersOfTokens() {
        faultOfLaw("BARS", 0);
        faultOfLaw("bArs", 0);
        faultOfLaw("burns Z", 6);
        faultOfLaw("bars`", 4);
        faultOfLaw("bars{", 4);
        faultOfLaw("z", 0);
        faultOfLaw("barsz", 0);
        faultOfLaw("barsa", 0);
        faultOfLaw("bars_if 1=1", 4);
        faultOfLaw("bars\341", 4);
        faultOfLaw("bars\372", 4);
    }

    private static void digitsOfTokens() {
        readsLaw("burns 0");
        readsLaw("burns 9");
        readsLaw("burns 1/1");
        faultOfLaw("burns 1:1", 7);
        faultOfLaw("burns 1.5", 7);
        faultOfLaw("burns 1,000", 7);
        faultOfLaw("burns \262", 6);
        faultOfLaw("burns -1", 6);
    }

    private static void blanks() {
        for (char c : new char[] {0, 9, 10, 13, 31, 33, 127, 160, 255}) {
            faultOfLaw("bars" + c, 4);
            faultOfLaw(c + "bars", 0);
        }
        is("blanks ahead and behind", law(new FuseFrames(), "  bars  "), 0);
    }

    private static void twelveClauses() {
        String twelve = "bars;".repeat(11) + "bars";
        readsLaw(twelve);
        faultOfLaw(twelve + ";bars", 60);
        faultOfLaw(twelve + "; burns", 61);
        faultOfLaw(twelve + ";x", 60);
        faultOfLaw(twelve + ";", 60);
        faultOfLaw(twelve + ";  ", 62);
        faultOfLaw(twelve + " ; ;", 62);
        FuseFrames x = new FuseFrames();
        is("twelve orders", orders(x, "pass;".repeat(11) + "pass"), 12);
        is("thirteen orders", orders(x, "pass;".repeat(12) + "pass"), -6);
        is("fault", x.fault(), 60);
        is("none was run", x.count(14), 12);
    }

    private static void rowOfClauses() {
        faultOfLaw("bars;", 5);
        faultOfLaw("bars; ", 6);
        faultOfLaw(";", 0);
        faultOfLaw(";bars", 0);
        faultOfLaw("bars;;bars", 5);
        faultOfLaw("bars bars", 5);
        faultOfOrders("pass;", 5);
        faultOfOrders("pass pass", 5);
    }

    private static void tests() {
        faultOfLaw("bars if", 7);
        faultOfLaw("bars if 1", 9);
        faultOfLaw("bars if 1=", 10);
        faultOfLaw("bars if =1", 8);
        faultOfLaw("bars if 1=1=1", 11);
        faultOfLaw("bars if 1=1 or", 14);
        faultOfLaw("bars if 1=1 and", 15);
        faultOfLaw("bars if or 1=1", 8);
        faultOfLaw("bars if and 1=1", 8);
        faultOfLaw("bars if 1=1 not 1=1", 12);
        faultOfLaw("bars if not", 11);
        faultOfLaw("bars if 1 not = 1", 10);
        faultOfLaw("bars if ()", 9);
        faultOfLaw("bars if (1=1", 12);
        faultOfLaw("bars if 1=1)", 11);
        faultOfLaw("bars if (1)=1", 10);
        faultOfLaw("bars if (1=1)=1", 13);
        faultOfLaw("bars if [1=1]", 10);
        faultOfLaw("bars if 1=1 if 1=1", 12);
        faultOfLaw("if 1=1", 0);
        faultOfLaw("bars if " + "not ".repeat(98), 400);
    }

    private static void sums() {
        faultOfLaw("burns", 5);
        faultOfLaw("burns +1", 6);
        faultOfLaw("burns 1+", 8);
        faultOfLaw("burns 1+-1", 8);
        faultOfLaw("burns 1*", 8);
        faultOfLaw("burns *1", 6);
        faultOfLaw("burns 1%", 8);
        faultOfLaw("burns 1**2", 8);
        faultOfLaw("burns (1)", 6);
        faultOfLaw("burns []", 7);
        faultOfLaw("burns [1", 8);
        faultOfLaw("burns 1]", 7);
        faultOfLaw("burns [1)", 8);
        faultOfLaw("burns 1=1", 7);
    }

    private static void numbers() {
        readsLaw("burns 0");
        readsLaw("burns 1000");
        faultOfLaw("burns 1001", 6);
        faultOfLaw("burns 9999", 6);
        faultOfLaw("burns 4294967301", 6);
        faultOfLaw("burns 18446744073709551621", 6);
        faultOfLaw("burns " + "9".repeat(394), 6);
        is("as large as can be", under("burns 1000/20").of(0, 5), 50);
        faultOfOrders("light 1001", 6);
    }

    private static void fiftyParts() {
        String fifty = "burns 1" + "+1".repeat(24) + "+second".repeat(25);
        readsLaw(fifty);
        faultOfLaw(fifty + "+1", fifty.length() + 1);
        faultOfLaw(fifty + " + long", fifty.length() + 3);
        String two = "burns 1" + "+1".repeat(24) + ";holds 1" + "+1".repeat(24);
        readsLaw(two);
        faultOfLaw(two + " if 1=1", two.length() + 4);
        faultOfLaw(two + ";burns 1", two.length() + 7);
        readsLaw(two + ";bars");
        readsLaw("burns [[1]]" + "+[1]".repeat(49));
        faultOfLaw(fifty + "+[1]", fifty.length() + 2);
        FuseFrames x = new FuseFrames();
        is("fifty of each text", law(x, fifty) * 10 + law(x, fifty), 1);
        String orders = "light 9" + "+1".repeat(49);
        is("fifty of orders", orders(new FuseFrames(), orders), -3);
        faultOfOrders(orders + "+1", orders.length() + 1);
    }

    private static void eightBrackets() {
        readsLaw("bars if ((((((((1=1))))))))");
        faultOfLaw("bars if (((((((((1=1)))))))))", 16);
        readsLaw("burns [[[[[[[[1]]]]]]]]");
        faultOfLaw("burns [[[[[[[[[1]]]]]]]]]", 14);
        readsLaw("bars if (((([[[[1]]]]=1))))");
        faultOfLaw("bars if ((((([[[[1]]]]=1)))))", 16);
        faultOfLaw("bars if (((([[[[[1]]]]]=1))))", 16);
        faultOfLaw("bars if 1=1 and ((((1=[[[[ [1]]]]]))))", 27);
        readsLaw("burns [[[[[[[[1]]]]]]]]+[[[[[[[[1]]]]]]]] if ((((((((1=1)))))))) or ((((((((1=1))))))))");
        readsLaw("bars if [[[[[[[[1]]]]]]]]=[[[[[[[[1]]]]]]]]");
        faultOfLaw("bars if " + "(".repeat(392), 16);
        faultOfLaw("burns " + "[".repeat(394), 14);
        faultOfOrders("light [[[[[[[[[1]]]]]]]]]", 14);
    }

    private static void placeOfFault() {
        faultOfLaw("x", 0);
        faultOfLaw("   x", 3);
        faultOfLaw("bars x y", 5);
        faultOfLaw("burns 1001 if x", 6);
        faultOfLaw("burns   ", 8);
        faultOfLaw("bars if 1 =   ", 14);
        faultOfLaw("", 0);
        faultOfOrders("", 0);
        faultOfOrders("pass times   ", 13);
        faultOfOrders("pass;light 0;soak y;swap", 18);
    }

    private static void beyond() {
        is("just as far", under("burns 7 if 1000*1000*1000 > 0").of(0, 5), 7);
        is("just as far below", under("burns 7 if 0-1000*1000*1000 < 0").of(0, 5), 7);
        is("by + just as far", under("burns 7 if 999*1000*1000+1000*1000 > 0").of(0, 5), 7);
        is("by + beyond", under("burns 7 if 1000*1000*1000+1 > 0").of(0, 5), 10);
        is("by - just as far", under("burns 7 if 0-999*1000*1000-1000*1000 < 0").of(0, 5), 7);
        is("by - beyond", under("burns 7 if 0-1000*1000*1000-1 < 0").of(0, 5), 10);
        is("by * beyond", under("burns 7 if 1000*1000*1000*2 > 0").of(0, 5), 10);
        is("by * beyond below", under("burns 7 if [0-1000]*1000*1000*2 < 0").of(0, 5), 10);
        is("beyond, and back again", under("burns 1000*1000*1000*10/1000/1000/1000").of(0, 5), 10);
        is("beyond, and back again", under("burns 1000*1000*1000+1-1000*1000*1000").of(0, 5), 10);
        is("what stands behind is beyond", under("burns 7-[1000*1000*1000+1]").of(0, 5), 10);
        is("wrapped around by 32 bits", under("burns [256*256]*[256*256]+7").of(0, 5), 10);
        is("wrapped around by 32 bits, +", under("burns 1000*1000*1000+1000*1000*1000+1000*1000*1000").of(0, 5), 10);
        is("as large as two can make it", under("burns [1000*1000*1000]*[1000*1000*1000]").of(0, 5), 10);
        is("as low as two can make it", under("burns [0-1000*1000*1000]*[1000*1000*1000]").of(0, 5), 10);
    }

    private static void dividedByNothing() {
        is("/ 0", under("burns 7;burns 1/0").of(0, 5), 7);
        is("0 / 0", under("burns 7;burns 0/0").of(0, 5), 7);
        is("% 0", under("burns 7;burns 1%0").of(0, 5), 7);
        is("by a sum that is 0", under("burns 7;burns 20/[kind-2]").of(0, 5), 7);
        is("by the same sum", under("burns 7;burns 20/[kind-2]").of(1, 5), 1);
        is("within a bracket", under("burns 7;burns [1/0]*0").of(0, 5), 7);
        is("a test", under("burns 7;burns 8 if 1/0=1/0").of(0, 5), 7);
    }

    private static void cutTowardsNothing() {
        is("7 / 2", under("burns 7/2").of(0, 5), 3);
        is("-7 / 2", under("burns 10+[0-7]/2").of(0, 5), 7);
        is("7 / -2", under("burns 10+7/[0-2]").of(0, 5), 7);
        is("-7 / -2", under("burns [0-7]/[0-2]").of(0, 5), 3);
        is("-1 / 2", under("burns 10+[0-1]/2").of(1, 5), 10);
        is("7 % 2", under("burns 10+7%2").of(0, 5), 11);
        is("-7 % 2", under("burns 10+[0-7]%2").of(0, 5), 9);
        is("7 % -2", under("burns 10+7%[0-2]").of(0, 5), 11);
        is("-7 % -2", under("burns 10+[0-7]%[0-2]").of(0, 5), 9);
        is("6 % 2", under("burns 10+6%2").of(1, 5), 10);
    }

    private static void brokenTests() {
        is("on the left", under("bars if 1/0 = 1").of(0, 6), 1);
        is("on the right", under("bars if 1 = 1/0").of(0, 6), 1);
        is("not", under("bars if not 1/0 = 1").of(0, 6), 1);
        is("not not", under("bars if not not 1/0 = 1").of(0, 6), 1);
        is("within brackets", under("bars if (1/0 = 1)").of(0, 6), 1);
        is("not so, and not broken", under("bars if not 1 = 2").of(0, 6), 0);
        is("so, and not broken", under("bars if not 1 = 1").of(0, 6), 1);
        is("so, and not broken", under("bars if not 2 = 2").of(0, 6), 1);
        is("not not", under("bars if not not 1 = 1").of(0, 6), 0);
    }

    private static void asksBehind() {
        is("so or broken", under("bars if 1=1 or 1/0=1").of(0, 6), 0);
        is("not so or broken", under("bars if 1=2 or 1/0=1").of(0, 6), 1);
        is("broken or so", under("bars if 1/0=1 or 1=1").of(0, 6), 1);
        is("not so and broken", under("bars if not (1=2 and 1/0=1)").of(0, 6), 0);
        is("so and broken", under("bars if not (1=1 and 1/0=1)").of(0, 6), 1);
        is("broken and not so", under("bars if not (1/0=1 and 1=2)").of(0, 6), 1);
        is("less or broken", under("bars if 1<2 or 1/0=1").of(0, 6), 0);
        is("more or broken", under("bars if 2>1 or 1/0=1").of(0, 6), 0);
        is("not less and broken", under("bars if not (2<2 and 1/0=1)").of(0, 6), 0);
        is("not more and broken", under("bars if not (2>2 and 1/0=1)").of(0, 6), 0);
        is("so or broken or broken", under("bars if 1=1 or 1/0=1 or 1/0=1").of(0, 6), 0);
        is("not so or so or broken", under("bars if 1=2 or 1=1 or 1/0=1").of(0, 6), 0);
        is("not so and broken and broken", under("bars if not (1=2 and 1/0=1 and 1/0=1)").of(0, 6), 0);
        is("not so and broken, or so", under("bars if 1=2 and 1/0=1 or 1=1").of(0, 6), 0);
        is("so or so and broken", under("bars if 1=1 or 1=1 and 1/0=1").of(0, 6), 0);
        is("not so or not so and broken", under("bars if not (1=2 or 1=2 and 1/0=1)").of(0, 6), 0);
    }

    // ---- II: laws

    private static void sixLaws() {
        FuseFrames x = two();
        is("none as yet", x.force(0), -2);
        for (int i = 0; i < 6; i++) {
            is("a law", law(x, "burns " + (i + 1)), i);
        }
        is("the seventh", law(x, "burns 7"), -5);
        is("how many", x.count(5), 6);
        is("the last", x.force(5), -1);
        is("it burns", x.of(0, 5), 6);
        is("there is no seventh", x.force(6), -2);
    }

    private static void noLawAtFirst() {
        FuseFrames x = two();
        law(x, "burns 1;holds 9;bars");
        is("none", x.count(13), -1);
        is("it burns", x.of(0, 5), 10);
        is("it holds", x.at(0, 1), 0);
        is("it catches", x.of(0, 6), 1);
    }

    private static void askedOfFuse() {
        is("knot", under("burns 50+knot").of(0, 5), 49);
        is("ends", under("burns 50+ends").of(1, 5), 49);
        is("bars: knot, ends", under("bars if knot = 0-1 and ends = 0-1").of(1, 6), 0);
        is("the last fuse, kind, knots", under("burns 20*fuse+10*kind+3*from+to").of(1, 5), 20 + 3 + 2);
    }

    private static void askedOfKnot() {
        is("fuse", under("holds 9+fuse").at(0, 1), 8);
        is("kind", under("holds 9+kind").at(0, 1), 8);
        is("long", under("holds 9+long").at(0, 1), 8);
        is("from", under("holds 9+from").at(0, 1), 8);
        is("to", under("holds 9+to").at(0, 1), 8);
        is("knot", under("holds knot").at(7, 1), 7);
    }

    private static void endsOfKnots() {
        FuseFrames x = under("holds ends");
        is("from", x.at(0, 1), 1);
        is("from and to", x.at(1, 1), 2);
        is("to", x.at(2, 1), 1);
        is("nothing is tied", x.at(3, 1), 0);
        x.soak(0);
        is("damp ones are tied", x.at(0, 1), 1);
        times(8, () -> x.fuse(5, 6, 1, 0));
        is("eight", x.at(5, 1), 8);
        FuseFrames y = new FuseFrames();
        times(10, () -> y.fuse(5, 6, 1, 0));
        law(y, "holds ends-9;bars");
        y.force(0);
        is("ten that are barred", y.at(6, 1), 1);
    }

    private static void secondNow() {
        FuseFrames x = under("burns second+1;holds second");
        is("the first", x.of(0, 5), 1);
        x.pass();
        is("the next", x.of(0, 5) * 10 + x.at(0, 1), 21);
        x.terms(0, 999);
        is("the last", x.of(0, 5) * 10 + x.at(0, 1), 999);
        x.terms(0, 98);
        is("99", x.of(0, 5), 99);
        x.undo();
        x.terms(0, 0);
        is("the first again", x.of(0, 5), 1);
    }

    private static void moodNow() {
        FuseFrames x = under("burns mood+1;holds mood");
        is("at first", x.of(0, 5) * 10 + x.at(0, 1), 10);
        x.terms(2, 9);
        is("the highest", x.of(0, 5) * 10 + x.at(0, 1), 109);
    }

    private static void clausesThatHold() {
        is("not so", under("burns 7;burns 8 if 1=2").of(0, 5), 7);
        is("its test is broken", under("burns 7;burns 8 if 1/0=0").of(0, 5), 7);
        is("its sum is broken", under("burns 7;burns 1/0 if 1=1").of(0, 5), 7);
        is("both are broken", under("burns 7;burns 1/0 if 1/0=0").of(0, 5), 7);
        is("without a test", under("burns 7;burns 8").of(0, 5), 8);
        is("holds, its test is broken", under("holds 3;holds 4 if 1/0=0").at(0, 1), 3);
        is("holds, its sum is broken", under("holds 3;holds 1%0").at(0, 1), 3);
    }

    private static void secondsOfBurning() {
        is("too few", under("burns 0").of(0, 5), 1);
        is("below 0", under("burns 0-1").of(0, 5), 1);
        is("far below 0", under("burns 0-1000*1000*1000").of(0, 5), 1);
        is("fewest", under("burns 1").of(0, 5), 1);
        is("most", under("burns 99").of(0, 5), 99);
        is("too many", under("burns 100").of(0, 5), 99);
        is("far too many", under("burns 1000*1000*1000").of(0, 5), 99);
        is("the last tells", under("burns 5;burns 6").of(0, 5), 6);
        is("the last that holds tells", under("burns 5;burns 6 if kind = 0").of(0, 5), 5);
        is("the last tells, not the nearest", under("burns 50;burns 0").of(0, 5), 1);
        is("without, as long as it is", under("burns 5 if kind = 0").of(0, 5), 10);
        is("without any burns", under("holds 5").of(0, 5), 10);
    }

    private static void secondsOfHolding() {
        is("below", under("holds 0-1").at(0, 1), 0);
        is("far below", under("holds 0-1000*1000*1000").at(0, 1), 0);
        is("fewest", under("holds 5;holds 0").at(0, 1), 0);
        is("most", under("holds 9").at(0, 1), 9);
        is("too many", under("holds 10").at(0, 1), 9);
        is("far too many", under("holds 1000*1000*1000").at(0, 1), 9);
        is("the last tells", under("holds 5;holds 6").at(0, 1), 6);
        is("the last that holds tells", under("holds 5;holds 6 if knot = 1").at(0, 1), 5);
        is("without", under("holds 5 if knot = 1").at(0, 1), 0);
        is("without any holds", under("burns 5").at(0, 1), 0);
        FuseFrames x = under("holds 5");
        is("by a law", x.at(0, 1), 5);
        x.force(-1);
        is("without a law again", x.at(0, 1), 0);
    }

    private static void barred() {
        is("bars", under("bars").of(0, 6), 0);
        is("not so", under("bars if 1=2").of(0, 6), 1);
        is("broken", under("bars if 1/0=1").of(0, 6), 1);
        is("any, not the last", under("bars if kind = 2;bars if 1=2").of(0, 6), 0);
        is("of another fuse", under("bars if kind = 2;bars if 1=2").of(1, 6), 1);
    }

    private static void catches() {
        FuseFrames x = under("bars if fuse = 0");
        is("barred", x.of(0, 6), 0);
        is("neither", x.of(1, 6), 1);
        x.soak(0);
        x.soak(1);
        is("both", x.of(0, 6), 0);
        is("damp", x.of(1, 6), 0);
        x.force(-1);
        is("damp, and barred no more", x.of(0, 6), 0);
        x.soak(0);
        is("neither any more", x.of(0, 6), 1);
    }

    private static void wordsOfLaws() {
        for (String word : new String[] {"fuse", "kind", "long", "from", "to", "knot", "ends", "second", "mood"}) {
            readsLaw("burns " + word);
        }
        for (String word : new String[] {"done", "latest", "gone", "damp", "lit", "rain", "burns", "if", "times", "fuses"}) {
            faultOfLaw("burns " + word, 6);
        }
        faultOfLaw("burns long 0", 11);
        faultOfLaw("light 0", 0);
        faultOfLaw("pass", 0);
        faultOfLaw("bars times 2", 5);
    }

    // ---- II: orders

    private static void clausesOfOrders() {
        faultOfOrders("burns 1", 0);
        faultOfOrders("light", 5);
        faultOfOrders("soak", 4);
        faultOfOrders("swap", 4);
        faultOfOrders("swap 0", 6);
        faultOfOrders("swap 0 with", 11);
        faultOfOrders("swap 0 1", 7);
        faultOfOrders("swap 0 with 1 with 2", 14);
        faultOfOrders("light 0 with 1", 8);
        faultOfOrders("pass 1", 5);
        faultOfOrders("pass with 1", 5);
        faultOfOrders("pass if 1=1 times 2", 12);
        faultOfOrders("pass times 2 times 2", 13);
    }

    private static void timesOfOrders() {
        FuseFrames x = new FuseFrames();
        is("once", orders(x, "pass times 1"), 1);
        is("most", orders(x, "pass times 20"), 20);
        is("second", x.count(14), 21);
        faultOfOrders("pass times", 10);
        faultOfOrders("pass times 0", 11);
        faultOfOrders("pass times 21", 11);
        faultOfOrders("pass times 1000", 11);
        faultOfOrders("pass times 4294967297", 11);
        faultOfOrders("pass times second", 11);
        faultOfOrders("pass times [2]", 11);
        faultOfOrders("pass times 1+1", 12);
        faultOfOrders("pass times -1", 11);
    }

    private static void wordsOfOrders() {
        FuseFrames x = two();
        for (String word : new String[] {"second", "done", "latest", "gone", "damp", "lit 0", "long 0"}) {
            is(word, orders(x, "pass if " + word + " = 1000"), 0);
        }
        for (String word : new String[] {"fuse", "kind", "from", "to", "knot", "ends", "mood", "rain", "pass", "with"}) {
            faultOfOrders("light " + word, 6);
        }
    }

    private static void numberOfKnotAndFuse() {
        FuseFrames x = two();
        is("knots 0, 7", orders(x, "pass if lit 0 = 0-1 and lit 7 = 0-1"), 1);
        is("fuses 0, 9", orders(x, "pass if long 0 = 10 and long 9 = 0-1"), 1);
        faultOfOrders("pass if lit 8 = 0", 12);
        faultOfOrders("pass if lit = 0", 12);
        faultOfOrders("pass if lit second = 0", 12);
        faultOfOrders("pass if lit [0] = 0", 12);
        faultOfOrders("pass if lit 4294967296 = 0", 12);
        faultOfOrders("pass if long 10 = 0", 13);
        faultOfOrders("pass if long = 0", 13);
        faultOfOrders("pass if lit", 11);
        faultOfOrders("pass if long", 12);
    }

    private static void numbersThatAreNoParts() {
        String text = "pass times 20 if lit 7+long 9";
        FuseFrames x = new FuseFrames();
        is("fifty parts", orders(x, text + "+1".repeat(47) + "=0"), 0);
        is("no fault", x.fault(), -1);
        faultOfOrders(text + "+1".repeat(48) + "=0", text.length() + 97);
        faultOfOrders("light 9" + "+1".repeat(49) + " times 2 if lit 0 = 0", 7 + 98 + 12);
    }

    private static void asOftenAsTimes() {
        FuseFrames x = two();
        is("once without", orders(x, "pass"), 1);
        is("second", x.count(14), 1);
        is("three times", orders(x, "pass times 3"), 3);
        is("second", x.count(14), 4);
        is("each of two", orders(x, "pass times 2;soak 0 times 3"), 5);
        is("damp, not, damp", x.of(0, 4), 1);
    }

    private static void askedEachTime() {
        FuseFrames x = two();
        is("until it is not so", orders(x, "pass times 20 if second < 3"), 3);
        is("not so at all", orders(x, "pass times 20 if second < 3"), 0);
        is("broken", orders(x, "pass if 1/0 = 0"), 0);
        is("broken when second is 4", orders(x, "pass times 20 if 1/[4-second] > 0-1000"), 1);
        is("second", x.count(14), 4);
        is("its sum is not asked", orders(x, "light 1/0 if 1=2"), 0);
        is("so again later", orders(x, "soak 0 times 4 if damp = 0 or done > 3;soak 0;soak 0 times 2 if damp = 0"), 3);
    }

    private static void doneInThisText() {
        FuseFrames x = two();
        is("none ahead", orders(x, "pass if done = 0;pass if done = 1;pass if done = 1;pass if done = 2"), 3);
        is("none ahead in another text", orders(x, "pass if done = 0"), 1);
    }

    private static void latestPass() {
        FuseFrames x = two();
        x.light(1);
        x.terms(0, 3);
        is("one is out", x.pass(), 1);
        is("none in this text", orders(x, "soak 1 if latest = 0-1;soak 1 if latest = 0-1"), 2);
        is("it told 1", orders(x, "pass;soak 0 if latest = 1;soak 1;soak 1 if latest = 1;soak 0 if gone = 1"), 5);
        is("none in another text", orders(x, "pass if latest = 0-1"), 1);
    }

    private static void goneByNow() {
        FuseFrames x = two();
        x.light(0);
        is("none at 0", orders(x, "soak 1 times 2 if gone = 0;soak 1 if gone = 1"), 2);
        is("none at 9", orders(x, "pass times 9;soak 1 if gone > 0"), 9);
        is("one at 10", orders(x, "pass;pass if gone = 1"), 2);
        is("two at 14", orders(x, "pass times 3;pass if gone = 2"), 4);
        x.soak(0);
        is("none, damp ahead of the orders", orders(x, "soak 0 times 2 if gone = 0;pass if gone = 1"), 1);
        is("two again", orders(x, "pass if gone = 2"), 1);
        is("none, if it is damp now", orders(x, "soak 0;pass if gone = 0"), 2);
    }

    private static void dampMany() {
        FuseFrames x = two();
        is("0, 1, 2, 1", orders(x, "soak damp;soak damp;soak 0 if damp = 2;soak 0 if damp = 1"), 4);
        is("all", x.count(1), 2);
    }

    private static void litSecond() {
        FuseFrames x = two();
        is("none", orders(x, "light 3 if lit 3 = 0-1"), 1);
        is("the first second", orders(x, "pass if lit 3 = 0"), 1);
        x.terms(0, 999);
        is("the last second", orders(x, "light 7;soak 0 if lit 7 = 999"), 2);
    }

    private static void longOfFuses() {
        FuseFrames x = two();
        is("there", orders(x, "pass if long 1 = 4"), 1);
        is("not there", orders(x, "pass if long 2 = 0-1"), 1);
        is("swapped", orders(x, "swap 0 with 1;pass if long 1 = 10"), 2);
    }

    private static void cantBe(String order) {
        FuseFrames x = two();
        x.terms(0, 5);
        x.light(5);
        x.soak(1);
        is(order, orders(x, "pass;soak 0;swap 0 with 1;light 1;" + order + ";pass times 3"), -3);
        is("stopped", x.stopped(), 4);
        is("second", x.count(14), 5);
        is("damp", x.of(0, 4) * 10 + x.of(1, 4), 1);
        is("long", x.of(0, 2) * 100 + x.of(1, 2), 1004);
        is("match", x.at(1, 0), -1);
        is("refused once, by -3", x.count(8) * 100 + x.count(9) * 10 + x.count(10), 1);
        is("can be undone", x.count(6), 2);
        is("undone", x.undo() * 10 + x.undo(), 10);
        is("nothing is left of it", x.count(1) * 10 + x.count(2), 0);
    }

    private static void ordersThatCantBe() {
        for (String order : new String[] {"light 8", "light 0-1", "light 5", "light 1", "light 1/0", "light 1000*1000*1000*3",
            "soak 2", "soak 0-1", "soak 1%0", "swap 0 with 0", "swap 2 with 2", "swap 0 with 2", "swap 2 with 0",
            "swap 0-1 with 0", "swap 1/0 with 0", "swap 0 with 1/0", "swap 1/0 with 1/0", "light 6 times 2"}) {
            cantBe(order);
        }
        FuseFrames x = two();
        x.terms(0, 990);
        is("no second is left", orders(x, "light 0;pass times 10"), -3);
        is("as it was", x.count(14) * 10 + x.count(2), 9900);
        is("up to the last", orders(x, "light 0;pass times 9"), 10);
        is("as read first: a fault behind one that can't be", orders(x, "light 9;x"), -6);
    }

    // ---- III

    private static void earliestFire() {
        int[] match = {8, 9, 10, 11};
        int[] comes = {8, 9, 10, 10};
        int[] out = {18, 19, 20, 20};
        for (int i = 0; i < match.length; i++) {
            FuseFrames x = two();
            x.light(0);
            x.terms(0, match[i]);
            x.light(1);
            is("by a match in " + match[i], x.at(1, 2), comes[i]);
            is("its match", x.at(1, 0), match[i]);
            is("out", x.of(0, 7), out[i]);
            is("the next is out", x.of(1, 7), 2 * (comes[i] + 4));
        }
        FuseFrames x = frame(0, 1, 7, 0, 1, 3, 1, 0, 5);
        is("the soonest of three", x.when(1, 1), 3);
        is("the slower ones are met", x.out(1, 0) * 100 + x.out(1, 2), 1008);
        FuseFrames y = two();
        y.soak(0);
        is("none by a fuse that does not catch", y.when(1, 1), -1);
    }

    private static void heldAhead() {
        FuseFrames x = under("holds 3 if knot = 0;holds 9 if knot = 2");
        is("held at 0, not at 1", x.when(1, 1), 13);
        is("not held at 1, nor at 0", x.when(2, 0), 10);
        is("held at 0", x.when(1, 2), 17);
        is("held at 2", x.when(4, 0), 23);
        is("there it is not held", x.when(4, 2), 0);
        x.terms(0, 5);
        x.light(2);
        is("behind a match", x.at(2, 2) * 100 + x.at(1, 2), 518);
    }

    private static void outByOneEnd() {
        FuseFrames x = under("holds 9 if knot = 0");
        is("held ahead of it", x.out(1, 0), 38);
        is("from its other end: 0 holds what comes there too late", x.out(2, 0), 20);
        is("behind it", x.out(1, 1), 46);
        law(x, "holds 9 if knot = 1");
        x.force(1);
        is("1 holds what comes there too late", x.out(1, 0), 20);
        is("held ahead of it", x.out(2, 0), 38);
        is("held ahead of it", x.out(2, 1), 26);
    }

    private static void outByBothEnds() {
        is("both at once", two().out(3, 0), 10);
        is("one long, both at once: half a second", frame(0, 1, 1).out(3, 0), 1);
        is("one end", two().out(1, 0), 20);
        FuseFrames x = under("holds 9 if knot = 1");
        is("the other end holds it: 0 + 9 + 10", x.out(3, 0), 19);
        law(x, "holds 9 if knot = 1;burns 9 if fuse = 0");
        x.force(1);
        is("just as late: not ahead", x.out(3, 0), 18);
        law(x, "holds 9 if knot = 1;burns 8 if fuse = 0");
        x.force(2);
        is("too late", x.out(3, 0), 16);
        law(x, "holds 9");
        x.force(3);
        is("both ends hold it", x.out(3, 0), 9 + 9 + 10);
        FuseFrames y = frame(0, 1, 10, 0, 2, 3, 2, 1, 6);
        is("fire around: 0 + 9 + 10", y.out(1, 0), 19);
        is("from there it has burnt", y.out(1, 2), 18);
        y = frame(0, 1, 10, 0, 2, 3, 2, 1, 7);
        is("around just as late", y.out(1, 0), 20);
    }

    private static void allAsItIsNow() {
        FuseFrames x = two();
        law(x, "burns 60");
        x.light(0);
        x.terms(0, 14);
        is("both are out", x.count(17), 2);
        x.soak(0);
        is("soaked behind it", x.count(17), 0);
        is("fire never came", x.at(1, 2), -1);
        x.soak(0);
        x.swap(0, 1);
        is("swapped behind it", x.of(0, 7), 8);
        x.force(0);
        is("by a law behind it", x.count(17), 0);
        is("out", x.of(1, 7), 240);
        x.force(-1);
        is("as it was", x.count(17), 2);
    }

    private static void lightWhereNoneWas() {
        FuseFrames x = new FuseFrames();
        x.terms(0, 999);
        is("in the last second", x.light(0), 999);
        is("one was", x.light(0), -3);
        x.terms(0, 0);
        is("one was, in a later second", x.light(0), -3);
        is("as it was", x.at(0, 0), 999);
        is("all the others", x.light(1) + x.light(2) + x.light(3) + x.light(4) + x.light(5) + x.light(6) + x.light(7), 0);
        is("eight", x.count(2), 8);
    }

    private static void soakedTwice() {
        FuseFrames x = two();
        is("damp", x.soak(0) * 10 + x.of(0, 4), 11);
        is("no more", x.soak(0) * 10 + x.of(0, 4), 0);
        is("again", x.soak(0) * 10 + x.of(0, 4), 11);
        is("the other one is not", x.of(1, 4), 0);
    }

    private static void swappedLengths() {
        FuseFrames x = two();
        x.soak(0);
        x.swap(0, 1);
        is("long", x.of(0, 2) * 100 + x.of(1, 2), 410);
        is("kinds stay", x.of(0, 3) * 10 + x.of(1, 3), 20);
        is("damp stays", x.of(0, 4) * 10 + x.of(1, 4), 10);
        FuseFrames y = frame(0, 1, 7, 0, 1, 7);
        is("as long as one another", y.swap(0, 1), 7);
    }

    private static void lastSecond() {
        FuseFrames x = new FuseFrames();
        x.terms(0, 998);
        is("the last", x.pass(), 0);
        is("999", x.count(14), 999);
        is("none is left", x.pass(), -3);
        is("still 999", x.count(14), 999);
    }

    private static void outByNow() {
        FuseFrames x = frame(0, 1, 3, 0, 2, 3, 1, 2, 1);
        x.light(0);
        x.terms(0, 2);
        is("at 4 of 6, 6, 7", x.count(17), 0);
        is("just at 6", x.pass(), 2);
        is("7 is behind 6", x.count(17), 2);
        is("behind 7", x.pass(), 3);
        FuseFrames y = frame(0, 1, 1);
        y.terms(0, 999);
        y.light(0);
        is("out behind the last second", y.of(0, 7), 2000);
        is("not by now", y.count(17), 0);
        y.terms(0, 0);
        is("not ahead of it", y.count(17), 0);
    }

    private static void matchesAside() {
        FuseFrames x = two();
        x.terms(0, 100);
        x.light(2);
        is("when", x.when(1, 2), 14);
        is("no match on paper", x.when(0, 2), -1);
        is("out", x.out(1, 1), 28);
        is("centre and best are by matches on paper", x.best(1, 0), 20);
        is("all at once", x.when(255, 5), 0);
        is("the frame's own", x.at(2, 2), 100);
    }

    private static void lettersStand() {
        FuseFrames x = two();
        x.letter(0);
        x.letter(3);
        x.letter(1 << 5);
        is("without fuses", x.stands(0, 0), 0);
        is("the last of two", x.stands(1, 1), 28);
        is("never", x.stands(0, 1), -1);
        is("of fuses that are not there", x.stands(0, 2), 0);
        x.soak(1);
        is("one is damp", x.stands(7, 1), -1);
    }

    private static void justSoMany() {
        FuseFrames x = frame(3, 4, 6);
        is("one, the lowest", x.best(1, 1), 1 << 3);
        is("two", x.best(2, 1), 1 << 3 | 1 << 4);
        is("two", x.best(2, 0), 6);
        is("three, though two would do", x.best(3, 1), 1 | 1 << 3 | 1 << 4);
        is("three", x.best(3, 0), 6);
        FuseFrames y = frame(0, 1, 5, 2, 3, 5, 4, 5, 5, 6, 7, 5);
        is("four parts: three are too few", y.best(3, 0), -1);
        y.image(0);
        is("three parts", frame(0, 1, 5, 2, 3, 5, 4, 5, 5).best(3, 1), 1 | 4 | 16);
    }

    private static void mostEven() {
        FuseFrames x = frame(0, 1, 5, 1, 2, 5, 3, 4, 5);
        x.letter(1);
        x.letter(2);
        is("the knot between", x.even(0), 1);
        is("both at once", x.even(1), 0);
        x.letter(4);
        is("one letter can't stand", x.even(0), -1);
        FuseFrames y = frame(2, 3, 5, 3, 4, 5);
        y.letter(3);
        is("one letter, the lowest from which it stands", y.even(0), 2);
        is("of one letter", y.even(1), 0);
        FuseFrames z = new FuseFrames();
        z.letter(0);
        is("without fuses: everywhere", z.even(0) * 10 + z.even(1), 0);
    }

    private static void centreOfAll() {
        FuseFrames x = frame(0, 1, 5, 1, 2, 5, 2, 3, 5, 3, 4, 5, 4, 5, 5, 5, 6, 5);
        is("seven knots of eight", x.centre(0), -1);
        is("seven knots of eight", x.centre(1), -1);
        x.fuse(6, 7, 5, 0);
        is("the lowest of two alike", x.centre(0), 3);
        is("seconds", x.centre(1), 20);
        FuseFrames y = frame(0, 1, 5, 0, 2, 5, 0, 3, 5, 0, 4, 5, 0, 5, 5, 0, 6, 5, 0, 7, 5);
        is("the first knot", y.centre(0) * 10 + y.centre(1), 5);
        FuseFrames z = frame(7, 1, 5, 7, 2, 5, 7, 3, 5, 7, 4, 5, 7, 5, 5, 7, 6, 5, 7, 0, 5);
        is("the last knot", z.centre(0) * 10 + z.centre(1), 75);
    }

    private static void firstWay() {
        FuseFrames x = frame(0, 1, 5, 1, 2, 5, 0, 2, 10);
        is("0, 1 is ahead of 2", x.way(0, 2, 0) * 10 + x.way(0, 2, 1), 1);
        x = frame(0, 2, 10, 0, 1, 5, 1, 2, 5);
        is("0 is ahead of 1, 2", x.way(0, 2, 0) * 10 + x.way(0, 2, 1), -1);
        x = frame(1, 2, 5, 0, 1, 5, 0, 2, 10);
        is("1, 0 is ahead of 2", x.way(0, 2, 0) * 10 + x.way(0, 2, 1), 10);
        is("from there 0, 1 is ahead of 2", x.way(2, 0, 0) * 10 + x.way(2, 0, 1), 1);
        x = frame(0, 2, 11, 0, 1, 5, 1, 2, 5);
        is("soonest ahead of first", x.way(0, 2, 0) * 10 + x.way(0, 2, 1), 12);
        x = frame(0, 1, 5, 0, 1, 5, 0, 1, 5);
        x.soak(0);
        is("damp ones aside", x.way(0, 1, 0), 1);
        law(x, "bars if fuse = 1");
        x.force(0);
        is("barred ones aside", x.way(0, 1, 0), 2);
    }

    private static void fewestToCut() {
        FuseFrames x = frame(0, 1, 1, 1, 3, 1, 2, 3, 1, 0, 2, 1, 1, 2, 1, 1, 2, 1, 1, 2, 1);
        is("two", x.cut(0, 3, 0), 2);
        is("1, 2 is 6, 0, 3 is 9", x.cut(0, 3, 1), 6);
        is("the same the other way", x.cut(3, 0, 1), 6);
        x.soak(1);
        is("damp ones are none of them", x.cut(0, 3, 1), 4);
        law(x, "bars if fuse = 2");
        x.force(0);
        is("barred ones are none of them", x.cut(0, 3, 0) + x.cut(0, 3, 1), 0);
        is("all ten", ten().cut(0, 1, 0) * 10000 + ten().cut(0, 1, 1), 101023);
    }

    private static void lowestExchanged() {
        FuseFrames x = frame(0, 1, 20, 1, 2, 3, 1, 3, 2, 1, 4, 2);
        is("0, 2 and 0, 3 alike", x.exchanged(0, 0), 2);
        is("out then", x.exchanged(0, 1), 44);
        FuseFrames y = new FuseFrames();
        times(7, () -> y.fuse(0, 1, 60, 0));
        y.fuse(2, 4, 5, 0);
        y.fuse(1, 2, 20, 0);
        y.fuse(2, 3, 3, 0);
        law(y, "burns 1 if fuse < 7");
        y.force(0);
        is("the highest two", y.exchanged(0, 0), 89);
        is("out then", y.exchanged(0, 1), 48);
        FuseFrames z = frame(0, 1, 5, 1, 2, 6);
        is("as soon as now is not sooner", z.exchanged(0, 0), -1);
        is("none of two", frame(0, 1, 5).exchanged(0, 0), -1);
    }

    private static void lowestMeasured() {
        FuseFrames x = frame(3, 4, 5, 4, 5, 5);
        is("10 from 3, 4 and 5: the lowest", x.measured(10, 0), 3);
        is("match and 3, 3 and 4", x.measured(10, 1), 2);
        is("20 from 3", x.measured(20, 1), 1);
        is("nothing between", frame(3, 4, 5, 3, 5, 5).measured(10, 1), 2);
        FuseFrames y = frame(0, 1, 3, 0, 2, 3, 1, 2, 1);
        FuseFrames z = two();
        z.soak(0);
        is("out at 8 from 1", z.measured(8, 0), 1);
        is("nothing to a damp one", z.measured(9, 0), -1);
        z.soak(0);
        z.soak(1);
        is("out at 20 from 0", z.measured(20, 0), 0);
        is("nothing to a damp one", z.measured(21, 0), -1);
        is("half a second", y.measured(1, 0), 0);
        is("two such", y.measured(1, 1), 2);
    }

    private static void wasWhereAllWasSeen() {
        FuseFrames x = chain();
        is("nothing was seen: everywhere", x.was(), 255);
        x.seen(3, 3);
        is("2 seconds behind and ahead", x.was(), 1 << 2);
        x.forget();
        x.seen(5, 9);
        x.seen(6, 15);
        is("both", x.was(), 1 << 3);
        x.seen(5, 8);
        is("none", x.was(), 0);
    }

    private static void neverIsAlike() {
        FuseFrames x = frame(0, 1, 5, 1, 2, 5);
        is("five never", x.look(1), 5);
        is("the lowest", x.look(0), 0);
        FuseFrames y = new FuseFrames();
        is("seven never", y.look(1), 7);
        FuseFrames z = chain();
        is("all apart at an end", z.look(0) * 10 + z.look(1), 1);
        FuseFrames w = frame(1, 0, 5, 2, 0, 5, 3, 0, 5);
        w.fuse(1, 7, 1, 0);
        w.seen(0, 5);
        is("three alike at 0; at 1 it is 0, 10, 10; at 7 it is 1, 11, 11", w.look(0) * 10 + w.look(1), 12);
    }

    private static void wetAlone() {
        FuseFrames x = frame(0, 1, 5, 0, 1, 7, 0, 1, 9);
        is("the first alone", x.wet(0, 1, 7), 1);
        is("never by one alone", x.wet(0, 1, -1), 0);
        x.soak(0);
        is("damp, too", x.wet(0, 1, 9), 2);
        is("a damp one is none of them", x.wet(0, 1, 7), 4);
        x.soak(1);
        is("never", x.wet(0, 1, -1), 4);
        x.soak(2);
        is("none is left", x.wet(0, 1, -1), 0);
    }

    private static void eachPartIsCut() {
        FuseFrames x = new FuseFrames();
        is("not cut", x.few(1, 12), 282429536481L);
        is("cut", x.few(1, 13), 254186582832L);
        is("all of 13, cut", x.few(14, 13), 999999999989L);
        x.terms(1, 0);
        is("no rain", x.few(1, 99), 1000000000000L);
        x.terms(1, 10);
        is("all go out", x.few(20, 20), 0);
        is("all go out, fewer than one more", x.few(20, 19), 1000000000000L);
        x.terms(1, 9);
        is("nearly all", x.few(20, 20), 878423345307L);
        is("none at last", x.few(1, 99), 0);
    }

    private static void comparedWithNone() {
        FuseFrames x = under("burns 60");
        is("none", x.compare(-1, 0), 28);
        is("it", x.compare(0, 0), 240);
        is("in force still", x.count(13), 0);
    }

    // ---- IV

    private static void seedsAndEvenings() {
        FuseFrames x = frame(0, 1, 5);
        is("no evening", x.evenings(0, 0), -1);
        is("one", x.evenings(0, 1), 0);
        is("sixty, a match at 1 in the first", x.evenings(0, 60), 1);
        is("one more", x.evenings(0, 61), -1);
        is("the lowest seed", x.evenings(0, 1), 0);
        is("below", x.evenings(-1, 1), -1);
        is("the highest seed", x.evenings(1000000, 1), 0);
        is("above", x.evenings(1000001, 1), -1);
        for (int far : FAR) {
            is("far many", x.evenings(0, far), -1);
            is("far seed", x.evenings(far, 1), -1);
        }
    }

    /** The seconds of the matches at knots 0 .. 7, and damp fuses as bits. */
    private static void drawn(FuseFrames x, String what, int damp, int... matches) {
        for (int knot = 0; knot < 8; knot++) {
            is(what + ", match at " + knot, x.drawn(knot, 1), matches[knot]);
        }
        for (int fuse = 0; fuse < x.count(0); fuse++) {
            is(what + ", damp " + fuse, x.drawn(fuse, 0), damp >> fuse & 1);
        }
    }

    private static FuseFrames ten() {
        return frame(0, 1, 1, 0, 1, 1, 0, 1, 1, 0, 1, 1, 0, 1, 1, 0, 1, 1, 0, 1, 1, 0, 1, 1, 0, 1, 1, 0, 1, 1);
    }

    // From 2 the draws are 14551, 62050 (wrapped around), 453291, ..: fuse 1, knot 2, 0, which soaks it.
    private static void drawsWrapAround() {
        FuseFrames x = ten();
        x.evenings(2, 1);
        drawn(x, "2: soaked", 2, -1, -1, -1, -1, -1, -1, -1, -1);
        x.evenings(2, 3);
        drawn(x, "2: soaked, nothing, soaked", 2 | 32, -1, -1, -1, -1, -1, -1, -1, -1);
        x.evenings(1000000, 1);
        drawn(x, "the highest seed: a match at 2", 0, -1, -1, 0, -1, -1, -1, -1, -1);
        x.evenings(7, 3);
        drawn(x, "7: nothing, a match at 4, one at 0", 0, 2, -1, -1, -1, 1, -1, -1, -1);
        FuseFrames y = frame(0, 1, 1);
        y.evenings(3, 2);
        drawn(y, "of one fuse", 1, 0, -1, -1, -1, -1, -1, -1, -1);
    }

    private static void endsAtLastSecond() {
        FuseFrames x = ten();
        x.terms(0, 999);
        x.evenings(0, 60);
        drawn(x, "at 999 nothing is drawn", 0, -1, -1, -1, -1, -1, -1, -1, -1);
        x.terms(0, 998);
        x.evenings(0, 60);
        drawn(x, "at 998 once", 0, -1, 998, -1, -1, -1, -1, -1, -1);
        x.terms(0, 997);
        x.evenings(0, 60);
        drawn(x, "at 997 twice", 0, -1, 997, -1, -1, 998, -1, -1, -1);
    }

    private static void ifItCanBe() {
        FuseFrames x = ten();
        x.evenings(0, 3);
        drawn(x, "0: at 1, at 4, at 1 again", 0, -1, 0, -1, -1, 1, -1, -1, -1);
        x.terms(0, 5);
        x.light(1);
        x.terms(0, 0);
        x.evenings(0, 3);
        drawn(x, "one was at 1", 0, -1, 5, -1, -1, 1, -1, -1, -1);
        FuseFrames y = ten();
        y.soak(1);
        y.evenings(2, 3);
        drawn(y, "a damp one is damp no more", 32, -1, -1, -1, -1, -1, -1, -1, -1);
    }

    private static void onPaper() {
        FuseFrames x = ten();
        x.evenings(3, 60);
        is("damp", x.count(1), 0);
        is("matches", x.count(2), 0);
        is("second", x.count(14), 0);
        is("nothing to undo", x.count(6), 0);
    }

    private static void rowByFours() {
        FuseFrames x = new FuseFrames();
        tape(x, "\0\7\74\3" + "\7\0\1\0");
        is("two", x.row(), 2);
        is("as told", x.of(0, 0) + x.of(0, 1) * 10 + x.of(0, 2) * 100 + x.of(0, 3), 0 + 70 + 6000 + 3);
        is("as told", x.of(1, 0) + x.of(1, 1) * 10 + x.of(1, 2) * 100 + x.of(1, 3), 7 + 0 + 100 + 0);
    }

    private static void ashThatCantBe() {
        for (String four : new String[] {"\10\1\5\0", "\377\1\5\0", "\0\10\5\0", "\1\1\5\0", "\0\1\0\0", "\0\1\75\0", "\0\1\377\0",
            "\0\1\5\4", "\0\1\5\377"}) {
            FuseFrames x = new FuseFrames();
            tape(x, four + "\0\1\5\0");
            is("one comes behind it", x.row(), 1);
            is("ash", x.ash(), 1);
            is("its number", x.of(0, 2), 5);
        }
    }

    private static void ashAtTheEnd() {
        for (int n = 1; n <= 3; n++) {
            FuseFrames x = new FuseFrames();
            tape(x, "\0\1\5\0" + "\0\1\5\0".substring(0, n));
            is("one", x.row(), 1);
            is("the tape ends within the other", x.ash(), 1);
            tape(x, "\0\1\5\0".substring(0, n));
            is("none", x.row(), 0);
            is("ash alone", x.ash(), 1);
        }
    }

    private static void ashWithoutRoom() {
        FuseFrames x = new FuseFrames();
        tape(x, "\0\1\5\0".repeat(12));
        is("ten", x.row(), 10);
        is("two had no room", x.ash(), 2);
        tape(x, "\0\1\5\0".repeat(100));
        is("none", x.row(), 0);
        is("none had room", x.ash(), 100);
        is("ten still", x.count(0), 10);
    }

    private static void imagesKeep() {
        FuseFrames x = two();
        x.soak(1);
        x.terms(0, 3);
        x.light(4);
        x.terms(1, 7);
        x.terms(2, 8);
        x.letter(1);
        x.seen(2, 4);
        law(x, "burns 9");
        x.force(0);
        x.image(0);
        x.fuse(3, 4, 5, 1);
        x.swap(0, 1);
        x.soak(0);
        x.light(5);
        x.letter(2);
        x.seen(1, 1);
        law(x, "burns 8");
        x.force(1);
        x.terms(0, 99);
        x.terms(1, 0);
        x.terms(2, 0);
        is("back", x.back(0), 0);
        is("fuses", x.count(0), 2);
        is("long", x.of(0, 2) * 100 + x.of(1, 2), 1004);
        is("damp", x.of(0, 4) * 10 + x.of(1, 4), 1);
        is("matches", x.at(4, 0) * 10 + x.at(5, 0), 29);
        is("letters", x.count(3), 1);
        is("seen", x.count(4), 1);
        is("laws", x.count(5) * 10 + x.count(13), 10);
        is("it burns", x.of(0, 5), 9);
        is("terms", x.count(14) * 100 + x.count(15) * 10 + x.count(16), 378);
        is("a letter of its own", x.letter(3), 1);
        is("a fuse of its own", x.fuse(5, 6, 7, 2), 2);
        is("it is not damp", x.of(2, 4), 0);
    }

    private static void imagesKeepAllOfIt() {
        FuseFrames x = new FuseFrames();
        x.image(1);
        x.fuse(1, 2, 3, 1);
        x.fuse(2, 3, 4, 2);
        x.letter(1);
        x.seen(3, 7);
        law(x, "burns 9 if second = 1");
        x.image(0);
        x.back(1);
        x.fuse(4, 5, 6, 3);
        x.fuse(6, 7, 8, 0);
        x.letter(3);
        x.seen(5, 0);
        law(x, "burns 50");
        x.back(0);
        x.force(0);
        int[] due = {1, 2, 3, 1, 0, 3, 2, 3, 4, 2, 0, 4};
        for (int i = 0; i < due.length; i++) {
            is("fuse " + i / 6 + ", what " + i % 6, x.of(i / 6, i % 6), due[i]);
        }
        is("the letter", x.stands(4, 0), 6);
        is("seen", x.was(), 1 << 1);
        x.back(1);
        is("nothing of it", x.count(0) + x.count(3) + x.count(4) + x.count(5), 0);
    }

    private static void imagesDoNotKeep() {
        FuseFrames x = two();
        x.evenings(3, 1);
        tape(x, "\0");
        x.row();
        law(x, "bars x");
        orders(x, "pass;pass;light 9");
        tape(x, "abc");
        x.soak(0);
        x.image(0);
        is("what can be undone stays behind image()", x.count(6), 1);
        x.end(0);
        x.evenings(5, 2);
        tape(x, "\0\0");
        tape(x, "\0\0\0\0");
        x.row();
        orders(x, "light 9");
        law(x, "bars if");
        tape(x, "abcde");
        x.soak(1);
        x.back(0);
        is("the tape", x.count(7), 5);
        is("fault", x.fault(), 7);
        is("ash", x.ash(), 2);
        is("stopped", x.stopped(), 0);
        is("nothing can be undone", x.count(6), 0);
        is("nothing can be undone", x.undo(), -3);
        is("the latest evenings", x.drawn(0, 1), 1);
        is("refused", x.count(12) * 10 + x.count(10), 23);
    }

    private static void imagesStay() {
        FuseFrames x = two();
        x.image(0);
        x.soak(0);
        x.image(1);
        x.soak(1);
        is("back", x.back(0), 0);
        is("none is damp", x.count(1), 0);
        x.soak(1);
        is("back to the other", x.back(1), 0);
        is("one is damp", x.of(0, 4) * 10 + x.of(1, 4), 10);
        is("back again", x.back(0), 0);
        is("none is damp", x.count(1), 0);
        x.fuse(4, 5, 6, 0);
        x.image(0);
        x.back(1);
        is("back to the newer one", x.back(0), 0);
        is("three", x.count(0), 3);
    }

    public static void main(String[] args) {
        edge("What it is", "An object is used for at most 512 calls after it has been made", EdgesOfTermsTest::lastOfAllCalls);
        edge("Constants", "`NONE = -1`: There is none.", EdgesOfTermsTest::none);
        edge("I", "KNOTS 0 .. 7.", EdgesOfTermsTest::knots);
        edge("I", "FUSES 0 .. 9 (10 at most)", EdgesOfTermsTest::tenFuses);
        edge("I", "FROM a KNOT TO another one", EdgesOfTermsTest::anotherKnot);
        edge("I", "LONG 1 .. 60", EdgesOfTermsTest::lengths);
        edge("I", "a KIND 0 .. 3", EdgesOfTermsTest::kinds);
        edge("I", "DAMP or not (at first)", EdgesOfTermsTest::notDampAtFirst);
        edge("I", "A MATCH was lit at a KNOT in a SECOND, or none was (at first).", EdgesOfTermsTest::noMatchAtFirst);
        edge("I", "LETTERS 0 .. 2 (3 at most)", EdgesOfTermsTest::threeLetters);
        edge("I", "SEEN, 6 at most", EdgesOfTermsTest::sixSeen);
        edge("I", "so many SECONDS 0 .. 999 behind one match nobody saw.", EdgesOfTermsTest::secondsSeen);
        edge("I", "0 SECOND 0 .. 999 (0 at first)", () -> term(0, 999, 0));
        edge("I", "1 RAIN 0 .. 10 (1)", () -> term(1, 10, 1));
        edge("I", "2 MOOD 0 .. 9 (0)", () -> term(2, 9, 0));
        edge("I", "The first of these in that order.", EdgesOfTermsTest::firstRefusal);
        textEdges();
        lawEdges();
        orderEdges();
        fireEdges();
        paperEdges();
        eveningEdges();
        finish();
    }

    private static void textEdges() {
        edge("II", "TEXTS are on a TAPE of at most 400 bytes.", EdgesOfTermsTest::tapeOfFourHundred);
        edge("II", "TOKENS: longest rows of letters a .. z, of digits, single other bytes", EdgesOfTermsTest::tokens);
        edge("II", "letters a .. z", EdgesOfTermsTest::lettersOfTokens);
        edge("II", "of digits, single other bytes", EdgesOfTermsTest::digitsOfTokens);
        edge("II", "any blanks (32) between.", EdgesOfTermsTest::blanks);
        edge("II", "12 at most (FAULT at the 13th's first TOKEN)", EdgesOfTermsTest::twelveClauses);
        edge("II", "CLAUSE {\";\" CLAUSE}", EdgesOfTermsTest::rowOfClauses);
        edge("II", "PLAIN: \"not\" PLAIN | \"(\" TEST \")\" | SUM (\"<\" | \">\" | \"=\") SUM.", EdgesOfTermsTest::tests);
        edge("II", "TERM: PART {(\"*\" | \"/\" | \"%\") PART}.", EdgesOfTermsTest::sums);
        edge("II", "NUMBER (to 1,000)", EdgesOfTermsTest::numbers);
        edge("II", "50 PARTS that are NUMBERS and words (FAULT at the 51st)", EdgesOfTermsTest::fiftyParts);
        edge("II", "8 brackets of both kinds within one another (FAULT at the 9th) at most.", EdgesOfTermsTest::eightBrackets);
        edge("II", "FAULT: the first TOKEN that can't go on there (the end's: the TEXT's length).",
                EdgesOfTermsTest::placeOfFault);
        edge("II", "Beyond 1,000,000,000 either way", EdgesOfTermsTest::beyond);
        edge("II", "or divided by 0", EdgesOfTermsTest::dividedByNothing);
        edge("II", "(/ cut towards 0, % what is left then)", EdgesOfTermsTest::cutTowardsNothing);
        edge("II", "a SUM, a TEST is BROKEN", EdgesOfTermsTest::brokenTests);
        edge("II", "(\"or\", \"and\" ask what stands behind only if it can still matter)", EdgesOfTermsTest::asksBehind);
    }

    private static void lawEdges() {
        edge("II", "LAWS, 6 at most", EdgesOfTermsTest::sixLaws);
        edge("II", "one is in FORCE (NONE at first: no CLAUSE)", EdgesOfTermsTest::noLawAtFirst);
        edge("II", "Words: \"fuse\" | \"kind\" | \"long\" | \"from\" | \"to\" | \"knot\" | \"ends\" | \"second\" | \"mood\".",
                EdgesOfTermsTest::wordsOfLaws);
        edge("II", "\"burns\", \"bars\" are asked of a FUSE (knot, ends -1)", EdgesOfTermsTest::askedOfFuse);
        edge("II", "\"holds\" of a KNOT (ends: how many FUSES are tied to it; fuse, kind, long, from, to -1)",
                EdgesOfTermsTest::askedOfKnot);
        edge("II", "ends: how many FUSES are tied to it", EdgesOfTermsTest::endsOfKnots);
        edge("II", "second: SECOND now.", EdgesOfTermsTest::secondNow);
        edge("II", "\"second\" | \"mood\"", EdgesOfTermsTest::moodNow);
        edge("II", "A CLAUSE HOLDS, if its \"if\" (if it has one) is so, and neither that nor its SUM is BROKEN.",
                EdgesOfTermsTest::clausesThatHold);
        edge("II", "A FUSE BURNS 1 .. 99 SECONDS as the last \"burns\" that HOLDS tells (else the nearest), without as many as it is"
                + " LONG", EdgesOfTermsTest::secondsOfBurning);
        edge("II", "a KNOT HOLDS fire 0 .. 9 SECONDS as the last \"holds\" that HOLDS tells (else the nearest), 0 without",
                EdgesOfTermsTest::secondsOfHolding);
        edge("II", "a FUSE is BARRED, if \"bars\" HOLDS.", EdgesOfTermsTest::barred);
        edge("II", "It CATCHES, if it is neither DAMP nor BARRED.", EdgesOfTermsTest::catches);
    }

    private static void orderEdges() {
        edge("II", "(\"light\" SUM | \"soak\" SUM | \"swap\" SUM \"with\" SUM | \"pass\") [\"times\" TIMES] [\"if\" TEST].",
                EdgesOfTermsTest::clausesOfOrders);
        edge("II", "TIMES: a NUMBER 1 .. 20.", EdgesOfTermsTest::timesOfOrders);
        edge("II", "\"second\" | \"done\" | \"latest\" | \"gone\" | \"damp\" | \"lit\" K | \"long\" F", EdgesOfTermsTest::wordsOfOrders);
        edge("II", "(K: a NUMBER 0 .. 7, F: 0 .. 9)", EdgesOfTermsTest::numberOfKnotAndFuse);
        edge("II", "K, F, TIMES aside, NUMBERS and words count as PARTS.", EdgesOfTermsTest::numbersThatAreNoParts);
        edge("II", "each as often as TIMES tell (once without)", EdgesOfTermsTest::asOftenAsTimes);
        edge("II", "each time its \"if\" is asked (not run, if it is not so or BROKEN)", EdgesOfTermsTest::askedEachTime);
        edge("II", "done: how many were run in this TEXT", EdgesOfTermsTest::doneInThisText);
        edge("II", "latest: what the latest pass in it told (-1: none)", EdgesOfTermsTest::latestPass);
        edge("II", "gone: how many FUSES are OUT by now", EdgesOfTermsTest::goneByNow);
        edge("II", "damp: how many are DAMP", EdgesOfTermsTest::dampMany);
        edge("II", "lit: the SECOND of a KNOT's MATCH (-1: none)", EdgesOfTermsTest::litSecond);
        edge("II", "long: -1 without such a FUSE.", EdgesOfTermsTest::longOfFuses);
        edge("II", "One that can't be (a BROKEN SUM, as light(), soak(), swap(), pass() are REFUSED) ends it: all is as it was ahead"
                + " of it.", EdgesOfTermsTest::ordersThatCantBe);
    }

    private static void fireEdges() {
        edge("III", "the earliest of these counts.", EdgesOfTermsTest::earliestFire);
        edge("III", "as long behind it came to that one as that HOLDS it and the FUSE BURNS", EdgesOfTermsTest::heldAhead);
        edge("III", "The FUSE is OUT (told in half SECONDS) as long behind the first end as it BURNS", EdgesOfTermsTest::outByOneEnd);
        edge("III", "if fire goes in at the other end, too, ahead of that, when both fires meet: at half of both and BURNS together.",
                EdgesOfTermsTest::outByBothEnds);
        edge("III", "(All as it is now: LONG, DAMP, laws, whatever they were.)", EdgesOfTermsTest::allAsItIsNow);
        edge("III", "To LIGHT: a MATCH is lit at a KNOT where none was, in SECOND.", EdgesOfTermsTest::lightWhereNoneWas);
        edge("III", "To SOAK a FUSE: it is DAMP, if it was not, else no more.", EdgesOfTermsTest::soakedTwice);
        edge("III", "To SWAP two FUSES: each is as LONG as the other was.", EdgesOfTermsTest::swappedLengths);
        edge("III", "A SECOND passes (SECOND below 999).", EdgesOfTermsTest::lastSecond);
        edge("III", "OUT by now: half SECONDS twice SECOND at most.", EdgesOfTermsTest::outByNow);
    }

    private static void paperEdges() {
        edge("III", "all lit at once, SECONDS from then on, MATCHES there are aside:", EdgesOfTermsTest::matchesAside);
        edge("III", "A LETTER STANDS when the last of its FUSES is OUT (without FUSES: at once).", EdgesOfTermsTest::lettersStand);
        edge("III", "KNOTS, just n, by which the last of all FUSES is OUT soonest; the lowest as bits.", EdgesOfTermsTest::justSoMany);
        edge("III", "all LETTERS STAND, the latest as little behind the earliest as can be; the lowest.", EdgesOfTermsTest::mostEven);
        edge("III", "CENTRE: the KNOT from which fire has come to all KNOTS soonest; the lowest.", EdgesOfTermsTest::centreOfAll);
        edge("III", "by which it comes soonest; the first as a row.", EdgesOfTermsTest::firstWay);
        edge("III", "the fewest FUSES that CATCH by which, if they were DAMP, fire from the one would not come to the other; the"
                + " lowest as bits.", EdgesOfTermsTest::fewestToCut);
        edge("III", "sooner than now; as ten times the lower and the higher one, the lowest.", EdgesOfTermsTest::lowestExchanged);
        edge("III", "just so many half SECONDS lie between two of these: the match, FUSES that are OUT; how many such twos.",
                EdgesOfTermsTest::lowestMeasured);
        edge("III", "IT WAS at KNOTS by one match at which all SEEN would be so.", EdgesOfTermsTest::wasWhereAllWasSeen);
        edge("III", "the most from which fire would come alike (never: alike) are as few as can be; the lowest.",
                EdgesOfTermsTest::neverIsAlike);
        edge("III", "if that one alone were DAMP, too, fire from one KNOT would come to another one just so many SECONDS behind the"
                + " match (NONE: never).", EdgesOfTermsTest::wetAlone);
        edge("III", "each of which goes out in RAIN of ten, fewer than k do: each part is cut.", EdgesOfTermsTest::eachPartIsCut);
        edge("III", "by a LAW in place of that in FORCE (NONE: none).", EdgesOfTermsTest::comparedWithNone);
    }

    private static void eveningEdges() {
        edge("IV", "EVENINGS with a SEED, n 1 .. 60, on paper: s is the SEED (0 .. 1,000,000)", EdgesOfTermsTest::seedsAndEvenings);
        edge("IV", "s becomes (s times 1103 and 12345) modulo 1,000,003, it is s modulo m.", EdgesOfTermsTest::drawsWrapAround);
        edge("IV", "(at SECOND 999 it ends)", EdgesOfTermsTest::endsAtLastSecond);
        edge("IV", "there is a MATCH at that KNOT (the second), if it can be, at 2 nothing", EdgesOfTermsTest::ifItCanBe);
        edge("IV", "on paper", EdgesOfTermsTest::onPaper);
        edge("IV", "A ROW: the TAPE's bytes by fours: FROM, TO, LONG, a KIND: a FUSE", EdgesOfTermsTest::rowByFours);
        edge("IV", "one that can't be", EdgesOfTermsTest::ashThatCantBe);
        edge("IV", "one within which the TAPE ends", EdgesOfTermsTest::ashAtTheEnd);
        edge("IV", "one for which there is no room is ASH: nothing.", EdgesOfTermsTest::ashWithoutRoom);
        edge("IV", "BACK to one all that it keeps is as it was then", EdgesOfTermsTest::imagesKeep);
        edge("IV", "IMAGES 0, 1 keep all", EdgesOfTermsTest::imagesKeepAllOfIt);
        edge("IV", "keep all but the TAPE, FAULT, ASH, where ORDERS stopped, what can be undone (nothing, behind back()), the latest"
                + " EVENINGS", EdgesOfTermsTest::imagesDoNotKeep);
        edge("IV", "(IMAGES stay)", EdgesOfTermsTest::imagesStay);
    }
}
