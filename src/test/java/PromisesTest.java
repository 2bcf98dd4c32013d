/** For each promise of the document: ordinary inputs, the edges that it names, and wrong inputs. */
public final class PromisesTest extends Checks {
    private static void newObject() {
        in("promise 1");
        FuseFrames x = new FuseFrames();
        int[] due = {-1, 0, 0, 0, 0, 0, 0, 0, 0, 0, 0, 0, 0, 0, -1, 0, 1, 0, 0, -1};
        for (int what = -1; what <= 18; what++) {
            is("count(" + what + ")", x.count(what), due[what + 1]);
        }
        is("fault", x.fault(), -1);
        is("stopped", x.stopped(), -1);
        is("ash", x.ash(), 0);
        is("status", x.status(), 0);
        is("at", x.at(3, 0), -1);
        is("drawn damp", x.drawn(0, 0), -1);
        is("drawn match", x.drawn(0, 1), -1);
        is("NONE", FuseFrames.NONE, -1);
    }

    private static void fuses() {
        in("promise 2");
        FuseFrames x = new FuseFrames();
        int[][] cant = {{-1, 1, 5, 0}, {8, 1, 5, 0}, {0, -1, 5, 0}, {0, 8, 5, 0}, {3, 3, 5, 0}, {0, 1, 0, 0},
            {0, 1, 61, 0}, {0, 1, 5, -1}, {0, 1, 5, 4}};
        for (int[] c : cant) {
            is("fuse that can't be", x.fuse(c[0], c[1], c[2], c[3]), -1);
        }
        is("refused by -1", x.count(8), cant.length);
        for (int i = 0; i < 10; i++) {
            is("fuse", x.fuse(i % 7, 7, i == 0 ? 1 : 60, i % 4), i);
        }
        is("the eleventh", x.fuse(0, 1, 5, 0), -5);
        is("-1 is ahead of -5", x.fuse(0, 0, 5, 0), -1);
        is("fuses", x.count(0), 10);
        x = two();
        x.pass();
        x.fuse(9, 9, 9, 9);
        is("refused: can be undone", x.count(6), 1);
        x.fuse(0, 2, 5, 0);
        is("nothing can be undone", x.undo(), -3);

        in("promise 3");
        x = two();
        x.soak(1);
        int[] first = {0, 1, 10, 2, 0, 10, 1, -1, -1};
        int[] second = {1, 2, 4, 0, 1, 4, 0, -1, -1};
        for (int what = 0; what < 9; what++) {
            is("of(0, " + what + ")", x.of(0, what), first[what]);
            is("of(1, " + what + ")", x.of(1, what), second[what]);
            is("of(2, " + what + ")", x.of(2, what), -1);
            is("of(-1, " + what + ")", x.of(-1, what), -1);
        }
        is("of(0, -1)", x.of(0, -1), -1);
        x.soak(1);
        x.terms(0, 5);
        x.light(0);
        is("out by one end", x.of(0, 7), 30);
        is("behind it", x.of(1, 7), 38);
        x.terms(0, 7);
        x.light(1);
        is("both fires meet", x.of(0, 7), 5 + 7 + 10);
        is("it goes on from there", x.of(1, 7), 22);

        in("promise 4");
        is("match", x.at(0, 0), 5);
        is("no match", x.at(2, 0), -1);
        is("holds", x.at(0, 1), 0);
        is("comes by a match", x.at(1, 2), 7);
        is("comes by a fuse", x.at(2, 2), 11);
        is("never", x.at(3, 2), -1);
        is("no knot", x.at(8, 2), -1);
        is("no knot", x.at(-1, 0), -1);
        is("no such what", x.at(0, 3), -1);
        is("no such what", x.at(0, -1), -1);
        x.terms(0, 0);
        x.soak(1);
        is("damp", x.at(2, 2), -1);
    }

    private static void lettersAndTerms() {
        in("promise 5");
        FuseFrames x = two();
        is("-1", x.letter(-1), -1);
        is("-1", x.letter(1024), -1);
        is("letter", x.letter(0), 0);
        is("letter", x.letter(1023), 1);
        is("letter", x.letter(2), 2);
        is("the fourth", x.letter(2), -5);
        is("-1 ahead of -5", x.letter(1024), -1);
        is("those that are there count", x.stands(1, 1), 28);
        x.fuse(2, 3, 6, 0);
        is("those that are there count", x.stands(1, 1), 40);

        in("promise 6");
        x = two();
        x.pass();
        int[] most = {999, 10, 9};
        int[] was = {1, 1, 0};
        for (int what = 0; what < 3; what++) {
            is("too low", x.terms(what, -1), -1);
            is("too high", x.terms(what, most[what] + 1), -1);
        }
        is("no such", x.terms(3, 0), -1);
        is("no such", x.terms(-1, 0), -1);
        is("refused: can be undone", x.count(6), 1);
        for (int what = 0; what < 3; what++) {
            is("what it was", x.terms(what, most[what]), was[what]);
            is("what it is", x.count(14 + what), most[what]);
            is("what it was then", x.terms(what, 0), most[what]);
            is("nothing to undo", x.count(6), 0);
        }
    }

    private static void tapes() {
        in("promise 7");
        FuseFrames x = new FuseFrames();
        for (int i = 1; i <= 20; i++) {
            is("feed", x.feed(0, 0, 0, 0, 0), 20 * i);
        }
        is("no more", x.feed(0, 0, 0, 0, 0), -1);
        is("as it was", x.count(7), 400);
        x.end(381);
        is("one too many", x.feed(0, 0, 0, 0, 0), -1);
        x.end(380);
        is("just so many", x.feed(0, 0, 0, 0, 0), 400);
        is("no refusal", x.status(), 0);
        x.end(0);
        x.feed(0x00010501, 0x02030602, 0xff000000, 0, 0);
        x.end(8);
        is("the highest first", x.row(), 2);
        is("from", x.of(1, 0), 2);
        is("to", x.of(1, 1), 3);
        is("long", x.of(1, 2), 6);
        is("kind", x.of(1, 3), 2);

        in("promise 8");
        x = new FuseFrames();
        is("nothing of nothing", x.end(0), 0);
        is("not so many", x.end(1), -1);
        x.feed(1, 2, 3, 4, 5);
        is("below 0", x.end(-1), -1);
        is("not so many", x.end(21), -1);
        is("all", x.end(20), 20);
        is("less", x.end(7), 7);
        is("count", x.count(7), 7);

        in("promise 9");
        x = two();
        is("empty", x.row(), -6);
        is("status", x.status(), -6);
        x.pass();
        x.row();
        is("refused: can be undone", x.count(6), 1);
        tape(x, "\3");
        is("ash alone", x.row(), 0);
        is("ash", x.ash(), 1);
        is("nothing to undo", x.count(6), 0);
        is("the tape is empty", x.count(7), 0);
        StringBuilder b = new StringBuilder();
        for (int i = 0; i < 9; i++) {
            b.append("\0\1\5\1");
        }
        tape(x, b + "\0\0\5\1\0\1");
        is("eight have room", x.row(), 8);
        in("promise 10");
        is("ash: no room, can't be, the end", x.ash(), 3);
        x.row();
        is("refused: as it was", x.ash(), 3);
        tape(x, "\377\1\5\1");
        x.row();
        is("ash", x.ash(), 1);
        x = new FuseFrames();
        tape(x, "\0\1\5\1");
        x.row();
        is("none", x.ash(), 0);
    }

    private static void laws() {
        in("promise 11");
        FuseFrames x = new FuseFrames();
        for (int i = 0; i < 6; i++) {
            is("law", law(x, "bars if fuse = " + i), i);
        }
        is("laws", x.count(5), 6);
        tape(x, "rubbish");
        is("no room", x.law(), -5);
        is("the tape is empty", x.count(7), 0);
        is("it was not read", x.fault(), -1);
        x = new FuseFrames();
        is("empty", x.law(), -6);
        is("its fault", x.fault(), 0);
        faultOfLaw("   ", 3);
        is("burns", under("burns long*2+1").of(0, 5), 21);
        is("the last that holds", under("burns 7;burns 8;burns 9 if kind = 0").of(0, 5), 8);
        is("too long", under("burns 100").of(0, 5), 99);
        is("too short", under("burns 0-5").of(0, 5), 1);
        is("long without", under("burns 5 if kind = 1").of(0, 5), 10);
        is("broken sum", under("burns 7;burns 1/[kind-2]").of(0, 5), 7);
        is("broken test", under("burns 7;burns 8 if 1/[kind-2] = 0").of(0, 5), 7);
        is("holds", under("holds ends+knot").at(1, 1), 3);
        is("holds too long", under("holds 10").at(7, 1), 9);
        is("holds too short", under("holds 0-1").at(7, 1), 0);
        is("holds not", under("holds 5 if knot = 1").at(0, 1), 0);
        is("of a knot there is no fuse", under("holds 9+fuse+kind+long+from+to").at(0, 1), 4);
        is("of a fuse there is no knot", under("burns 9+knot+ends").of(0, 5), 7);
        is("bars", under("bars if kind = 2").of(0, 6), 0);
        is("bars not", under("bars if kind = 2").of(1, 6), 1);
        is("bars always", under("bars").of(1, 6), 0);
        is("bars, broken", under("bars if 1%0 = 0").of(1, 6), 1);
        is("words", under("burns fuse*20+from*10+to").of(1, 5), 32);
        x = under("burns second+mood*10;holds mood");
        x.terms(0, 7);
        x.terms(2, 4);
        is("second and mood", x.of(0, 5), 47);
        is("mood of a knot", x.at(0, 1), 4);
        is("each sign", under("burns 20-3*5+7/2%2").of(0, 5), 6);
        is("brackets", under("burns [20-3]*[1+1]").of(0, 5), 34);
        is("cut towards 0", under("burns 10+[0-7]/2").of(0, 5), 7);
        is("what is left then", under("burns 10+[0-7]%4").of(0, 5), 7);
        is("just 1,000,000,000", under("burns 1000*1000*1000/1000/1000/50").of(0, 5), 20);
        is("just as far below", under("burns 21+[0-1000*1000*1000]/1000/1000/1000").of(0, 5), 20);
        is("just as far below", under("burns 21+[0-1000]*1000*1000/1000/1000/1000").of(0, 5), 20);
        is("beyond it", under("burns [1000*1000*1000+1]/1000/1000/500").of(1, 5), 4);
        is("beyond it below", under("burns 5;burns 0-1000*1000*1000-1").of(0, 5), 5);
        is("or does not ask", under("burns 5 if kind = 2 or 1/0 = 1").of(0, 5), 5);
        is("or asks", under("burns 5 if kind = 1 or 1/0 = 1").of(0, 5), 10);
        is("and does not ask", under("burns 5 if not (kind = 1 and 1/0 = 1)").of(0, 5), 5);
        is("and asks", under("burns 5 if not (kind = 2 and 1/0 = 1)").of(0, 5), 10);
        is("and ahead of or", under("burns 5 if 1=1 or 1=1 and 1=2").of(0, 5), 5);
        is("not not", under("burns 5 if not not not 1>2").of(0, 5), 5);
        is("not ahead of and", under("burns 5 if not 1=1 and 1=2").of(0, 5), 10);
        is("less", under("burns 5 if 1<1 or 2<1").of(0, 5), 10);
        is("blanks and zeros", under("  burns   007  ;bars  if  1 = 2  ").of(0, 5), 7);
    }

    private static void faults() {
        in("promise 13");
        String eleven = "bars;bars;bars;bars;bars;bars;bars;bars;bars;bars;bars;";
        is("twelve clauses", law(new FuseFrames(), eleven + "bars"), 0);
        faultOfLaw(eleven + "bars; bars", 61);
        faultOfLaw(eleven + "bars; ", 61);
        faultOfLaw(eleven + "bars;", 60);
        StringBuilder fifty = new StringBuilder("burns 1");
        for (int i = 1; i < 50; i++) {
            fifty.append(i == 9 ? "+mood" : "+1");
        }
        is("fifty parts", law(new FuseFrames(), fifty.toString()), 0);
        faultOfLaw(fifty + "+ 1", fifty.length() + 2);
        faultOfLaw(fifty + " if [mood] = 1", fifty.length() + 5);
        is("eight brackets", law(new FuseFrames(), "bars if ((((([[[1]]]=1)))))"), 0);
        faultOfLaw("bars if (((((([[[1]]]=1))))))", 16);
        faultOfLaw("bars if (((((((((1=1)))))))))", 16);
        is("side by side", law(new FuseFrames(), "burns [[[[1]]]]+[[[[[1]]]]]"), 0);
        is("largest", law(new FuseFrames(), "burns 1000"), 0);
        faultOfLaw("burns 1001", 6);
        faultOfLaw("burns 99999999999999999999", 6);
        faultOfLaw("burns", 5);
        faultOfLaw("burns  ", 7);
        faultOfLaw("burns 1;", 8);
        faultOfLaw(";burns 1", 0);
        faultOfLaw("burns 1 holds 2", 8);
        faultOfLaw("bars 1", 5);
        faultOfLaw("pass", 0);
        faultOfLaw("Burns 1", 0);
        faultOfLaw("burns done", 6);
        faultOfLaw("burns (1)", 6);
        faultOfLaw("burns [1", 8);
        faultOfLaw("burns [1)", 8);
        faultOfLaw("burns 1 2", 8);
        faultOfLaw("burns 1+", 8);
        faultOfLaw("burns -1", 6);
        faultOfLaw("burns 1 times 2", 8);
        faultOfLaw("bars if", 7);
        faultOfLaw("bars if 1", 9);
        faultOfLaw("bars if 1<", 10);
        faultOfLaw("bars if 1<2<3", 11);
        faultOfLaw("bars if 1<=2", 10);
        faultOfLaw("bars if (1=1", 12);
        faultOfLaw("bars if (1)=1", 10);
        faultOfLaw("bars if 1=1 and", 15);
        faultOfLaw("bars if 1=1 or or 1=1", 15);
        faultOfLaw("bars if 1=1 if 1=1", 12);
        faultOfLaw("bars\t", 4);
        faultOfLaw("bars\351", 4);
        faultOfLaw("barsif 1=1", 0);
        faultOfLaw("barsz", 0);
        faultOfLaw("bars`", 4);
        faultOfLaw("bars{", 4);
        faultOfLaw("burns 1/", 8);
        faultOfLaw("burns 1:", 7);
        faultOfLaw("(".repeat(400), 0);
        faultOfLaw("bars if " + "(".repeat(392), 16);
        faultOfLaw("bars if " + "not ".repeat(98), 400);
        is("a text as long as can be", law(new FuseFrames(), "bars" + " ".repeat(396)), 0);
        faultOfLaw(" ".repeat(400), 400);
        is("letters and digits part", law(new FuseFrames(), "burns1if1=1or2=2"), 0);
        faultOfOrders("", 0);
        faultOfOrders("  ", 2);
        faultOfOrders("burns 1", 0);
        faultOfOrders("pass times", 10);
        faultOfOrders("pass times 0", 11);
        faultOfOrders("pass times 21", 11);
        faultOfOrders("pass times second", 11);
        faultOfOrders("pass if 1=1 times 2", 12);
        faultOfOrders("pass 1", 5);
        faultOfOrders("swap 1 2", 7);
        faultOfOrders("swap 1 with", 11);
        faultOfOrders("light", 5);
        faultOfOrders("light lit 8", 10);
        faultOfOrders("light lit", 9);
        faultOfOrders("light lit second", 10);
        faultOfOrders("light long 10", 11);
        faultOfOrders("light mood", 6);
        faultOfOrders("pass;pass;pass;pass;pass;pass;pass;pass;pass;pass;pass;pass;pass", 60);
        StringBuilder text = new StringBuilder("light 0 times 20 if lit 0");
        for (int i = 2; i < 50; i++) {
            text.append("+1");
        }
        is("numbers of lit and times are no parts", orders(new FuseFrames(), text + "=1"), -6);
        FuseFrames x = new FuseFrames();
        orders(x, text + "=1");
        is("the 51st", x.fault(), text.length() + 1);
        is("fifty", orders(x, text.substring(0, text.length() - 2) + "=1"), 0);
        is("no fault", x.fault(), -1);
        law(x, "x");
        is("fault of the latest", x.fault(), 0);
        law(x, "bars");
        is("fault of the latest", x.fault(), -1);
    }

    private static void ordersRun() {
        in("promise 12");
        FuseFrames x = two();
        is("all four", orders(x, "light 0;soak 1;swap 0 with 1;pass"), 4);
        is("lit", x.at(0, 0), 0);
        is("damp", x.of(1, 4), 1);
        is("swapped", x.of(0, 2), 4);
        is("passed", x.count(14), 1);
        is("the tape is empty", x.count(7), 0);
        is("can be undone", x.count(6), 4);
        is("times", orders(x, "pass times 20"), 20);
        is("sixteen are kept", x.count(6), 16);
        is("each time asked", orders(x, "pass times 20 if second < 25"), 4);
        is("second", x.count(14), 25);
        is("not so", orders(x, "pass if 1 = 2"), 0);
        is("broken", orders(x, "pass if 1/0 = 0"), 0);
        is("done", orders(x, "pass times 3;pass times 9 if done < 5"), 5);
        x = two();
        is("done in sums", orders(x, "light done times 8"), 8);
        is("lit", x.count(2), 8);
        x = two();
        x.light(0);
        is("latest is none", orders(x, "soak 0 if latest = 0-1"), 1);
        x.undo();
        is("latest", orders(x, "pass times 20 if latest < 1"), 10);
        is("out just then", x.count(14), 10);
        is("gone", orders(x, "pass times 20 if gone = 1"), 4);
        is("out just then", x.count(17), 2);
        x = two();
        x.light(0);
        x.terms(0, 20);
        is("gone at first", orders(x, "soak 0 if gone = 2;soak 1 if gone = 0"), 2);
        is("latest pass, not gone", orders(x, "soak 0;pass;soak 0;pass if latest = 1;pass if gone = 0"), 5);
        x = two();
        is("damp", orders(x, "soak damp;soak damp;pass if damp = 2"), 3);
        is("lit", orders(x, "light 3 if lit 3 = 0-1;light lit 3+1 times 2 if lit 3 = 2 or lit 2 < 0"), 2);
        is("it was lit at 2", x.at(2, 0), 1);
        is("long", orders(x, "soak 0 if long 0 = 10;soak 1 if long 2 = 0-1 and long 1 = 4"), 2);
        x = two();
        x.light(5);
        x.soak(1);
        int[] cant = {orders(x, "pass;light 5"), orders(x, "pass;light 8"), orders(x, "pass;soak 2"),
            orders(x, "pass;swap 0 with 0"), orders(x, "pass;swap 0 with 2"), orders(x, "pass;light 1/0"),
            orders(x, "pass;swap 1/0 with 1"), orders(x, "pass;swap 0 with 1/0"), orders(x, "pass;soak 0-1")};
        for (int i = 0; i < cant.length; i++) {
            is("can't be " + i, cant[i], -3);
        }
        is("as it was", x.count(14), 0);
        is("as it could be undone", x.count(6), 2);
        is("refused", x.count(10), cant.length);
        is("refused by -1, -2", x.count(8) + x.count(9), 0);
        orders(x, "pass times 20;soak 0;swap 0 with 1;light 1;light 1");
        in("promise 14");
        is("stopped", x.stopped(), 4);
        is("no fault", x.fault(), -1);
        is("can be undone as ahead of it", x.undo(), 1);
        is("damp no more", x.count(1), 0);
        is("lengths", x.of(0, 2), 10);
        is("undone", x.undo(), 0);
        x.light(0);
        is("another call", x.stopped(), 4);
        law(x, "bars");
        is("a law", x.stopped(), 4);
        orders(x, "x");
        is("of the latest", x.stopped(), -1);
        orders(x, "light 0");
        is("the first", x.stopped(), 0);
        orders(x, "pass");
        is("none", x.stopped(), -1);
        x.terms(0, 998);
        is("no second", orders(x, "pass times 2"), -3);
        is("as it was", x.count(14), 998);
    }

    private static void deeds() {
        in("promise 15");
        FuseFrames x = two();
        law(x, "burns 3");
        law(x, "burns 4");
        is("none was", x.force(1), -1);
        is("it burns", x.of(0, 5), 4);
        is("that was", x.force(0), 1);
        is("no such", x.force(2), -2);
        is("no such", x.force(-2), -2);
        is("as it was", x.count(13), 0);
        is("none", x.force(-1), 0);
        is("status", x.status(), 0);
        is("it burns", x.of(0, 5), 10);

        in("promise 16");
        x = two();
        x.terms(0, 33);
        is("light", x.light(7), 33);
        is("again", x.light(7), -3);
        is("no knot", x.light(8), -1);
        is("no knot", x.light(-1), -1);
        is("matches", x.count(2), 1);

        in("promise 17");
        is("soak", x.soak(1), 1);
        is("soak again", x.soak(1), 0);
        is("no fuse", x.soak(2), -2);
        is("no fuse", x.soak(-1), -2);

        in("promise 18");
        is("swap", x.swap(1, 0), 10);
        is("the other", x.of(0, 2), 4);
        is("itself", x.swap(1, 1), -1);
        is("itself, none", x.swap(7, 7), -1);
        is("no fuse", x.swap(0, 2), -2);
        is("no fuse", x.swap(-1, 0), -2);

        in("promise 19");
        x = two();
        x.terms(0, 5);
        x.light(1);
        for (int i = 0; i < 3; i++) {
            is("not out", x.pass(), 0);
        }
        is("one is out", x.pass(), 1);
        is("second", x.count(14), 9);
        x.light(0);
        x.pass();
        x.pass();
        is("half a second early", x.count(17), 1);
        is("5 + 9 + 10 is 24", x.pass(), 2);
        x.terms(0, 998);
        is("the last", x.pass(), 2);
        is("none is left", x.pass(), -3);
        is("status", x.status(), -3);

        in("promise 20");
        x = two();
        is("nothing", x.undo(), -3);
        x.light(3);
        x.soak(0);
        x.swap(0, 1);
        x.pass();
        law(x, "bars");
        x.force(0);
        x.letter(1);
        x.seen(0, 0);
        x.image(0);
        is("pass", x.undo(), 3);
        is("second", x.count(14), 0);
        is("swap", x.undo(), 2);
        is("long", x.of(0, 2), 10);
        is("soak", x.undo(), 1);
        is("damp", x.count(1), 0);
        is("light", x.undo(), 0);
        is("match", x.at(3, 0), -1);
        is("nothing", x.undo(), -3);
        is("the law stays", x.count(13), 0);
        x.light(0);
        for (int i = 0; i < 16; i++) {
            x.soak(0);
        }
        is("sixteen", x.count(6), 16);
        for (int i = 0; i < 16; i++) {
            is("soak", x.undo(), 1);
        }
        is("not the seventeenth", x.undo(), -3);
        is("the match stays", x.at(0, 0), 0);
    }

    private static void paper() {
        in("promise 21");
        FuseFrames x = chain();
        x.terms(0, 50);
        x.light(7);
        is("there", x.when(4, 2), 0);
        is("on", x.when(1, 7), 28);
        is("the earliest", x.when(1 | 128, 5), 13);
        is("no match", x.when(0, 0), -1);
        is("too many", x.when(256, 0), -1);
        is("below", x.when(-1, 0), -1);
        is("no knot", x.when(1, 8), -1);
        is("no knot", x.when(1, -1), -1);
        law(x, "holds 2 if knot > 0");
        x.force(0);
        is("held on the way, not there", x.when(1, 3), 1 + 2 + 2 + 2 + 3);

        in("promise 22");
        is("held ahead of it", x.out(1, 1), 2 * (1 + 2 + 2));
        is("the other fire comes too late", x.out(1 | 128, 3), 2 * (1 + 2 + 2 + 2 + 3 + 2 + 4));
        x.force(-1);
        is("both ends", x.out(1 | 4, 1), 1 + 0 + 2);
        is("half a second", x.out(2 | 4, 1), 2);
        is("from one end", x.out(1, 6), 56);
        is("no fuse", x.out(1, 7), -1);
        is("no fuse", x.out(1, -1), -1);
        is("no match", x.out(0, 0), -1);
        is("too many", x.out(256, 0), -1);
        x.soak(0);
        is("damp", x.out(3, 0), -1);
        x.soak(0);

        in("promise 23");
        x.letter(3);
        x.letter(0);
        x.letter(1 << 9);
        is("the last of its fuses", x.stands(1, 0), 6);
        is("without fuses", x.stands(1, 1), 0);
        is("without fuses there", x.stands(0, 2), 0);
        is("never", x.stands(0, 0), -1);
        is("no letter", x.stands(1, 3), -1);
        is("no letter", x.stands(1, -1), -1);
        is("too many", x.stands(256, 1), -1);

        in("promise 24");
        x = chain();
        is("one", x.best(1, 0), 30);
        is("where", x.best(1, 1), 1 << 5);
        is("two", x.best(2, 0), 15);
        is("the lowest", x.best(2, 1), 1 << 3 | 1 << 6);
        is("three", x.best(3, 0), 13);
        is("the lowest", x.best(3, 1), 1 << 2 | 1 << 5 | 1 << 7);
        is("four", x.best(4, 0), -1);
        is("no", x.best(0, 0), -1);
        is("no such", x.best(1, 2), -1);
        is("no such", x.best(1, -1), -1);
        x.soak(3);
        is("it can't be", x.best(3, 0), -1);
        is("it can't be", x.best(3, 1), -1);
        is("no fuses", new FuseFrames().best(3, 0), 0);
        is("no fuses", new FuseFrames().best(3, 1), 7);

        in("promise 25");
        x = chain();
        is("no letters", x.even(0), -1);
        x.letter(1);
        x.letter(64);
        is("where", x.even(0), 5);
        is("by so much", x.even(1), 4);
        is("no such", x.even(2), -1);
        x.soak(3);
        is("it can't be", x.even(0), -1);
        is("it can't be", x.even(1), -1);

        in("promise 26");
        x = chain();
        is("where", x.centre(0), 5);
        is("how long", x.centre(1), 15);
        is("no such", x.centre(2), -1);
        x.soak(6);
        is("it can't be", x.centre(0), -1);
    }

    private static void ways() {
        in("promise 27");
        FuseFrames x = new FuseFrames();
        x.fuse(0, 1, 5, 0);
        x.fuse(1, 3, 5, 0);
        x.fuse(0, 2, 4, 0);
        x.fuse(3, 2, 6, 0);
        x.fuse(0, 3, 10, 0);
        x.fuse(0, 2, 4, 0);
        is("soonest", x.way(0, 3, -1), 10);
        is("the first as a row", x.way(0, 3, 0), 0);
        is("then", x.way(0, 3, 1), 1);
        is("no more", x.way(0, 3, 2), -1);
        is("the other way", x.way(3, 0, 0), 1);
        is("then", x.way(3, 0, 1), 0);
        x.soak(0);
        is("the lowest of two alike", x.way(0, 3, 0), 2);
        law(x, "holds 1 if knot = 2 or knot = 3");
        x.force(0);
        is("held on the way", x.way(0, 3, 0), 4);
        is("held there", x.way(3, 0, -1), 11);
        is("there", x.way(3, 3, -1), 0);
        is("there: no fuse", x.way(3, 3, 0), -1);
        is("it does not come", x.way(0, 7, -1), -1);
        is("it does not come", x.way(0, 7, 0), -1);
        is("no knot", x.way(8, 0, -1), -1);
        is("no knot", x.way(0, -1, -1), -1);
        is("no such", x.way(0, 3, -2), -1);

        in("promise 28");
        x.soak(0);
        is("three ways", x.cut(0, 3, 0), 3);
        is("the lowest", x.cut(0, 3, 1), 1 | 8 | 16);
        is("around 1", x.cut(0, 1, 1), 3);
        x.soak(1);
        is("damp ones aside", x.cut(0, 3, 1), 8 | 16);
        is("one", x.cut(1, 3, 1), 1);
        is("none is needed", x.cut(0, 7, 0), 0);
        is("none is needed", x.cut(0, 7, 1), 0);
        is("one knot alone", x.cut(3, 3, 0), -1);
        is("no knot", x.cut(8, 3, 0), -1);
        is("no knot", x.cut(3, -1, 0), -1);
        is("no such", x.cut(0, 3, 2), -1);
        x = new FuseFrames();
        for (int i = 0; i < 10; i++) {
            x.fuse(0, 1, 1, 0);
        }
        is("ten", x.cut(1, 0, 0), 10);
        is("ten", x.cut(1, 0, 1), 1023);

        in("promise 29");
        x = new FuseFrames();
        x.fuse(0, 1, 20, 0);
        x.fuse(1, 2, 3, 0);
        x.fuse(1, 3, 2, 0);
        is("from 0, the first two of 20, 3, 2", x.exchanged(0, 0), 2);
        is("3 behind 2, 20 behind 2", x.exchanged(0, 1), 44);
        is("from 2", x.exchanged(2, 0), 12);
        is("20 behind 2", x.exchanged(2, 1), 44);
        is("as it was", x.of(0, 2) * 100 + x.of(1, 2) * 10 + x.of(2, 2), 2032);
        x.fuse(2, 4, 30, 0);
        is("all in a row and one aside", x.exchanged(0, 1), 70);
        x.fuse(0, 4, 1, 0);
        is("now both fires meet at 1 + 23 + 30", x.compare(-1, 0), 54);
        is("the twos", x.exchanged(0, 0), 2);
        is("out then", x.exchanged(0, 1), 44);
        x.swap(0, 2);
        is("out by then", x.compare(-1, 0), 44);
        FuseFrames y = new FuseFrames();
        y.fuse(0, 1, 5, 0);
        y.fuse(1, 2, 5, 0);
        is("not sooner", y.exchanged(0, 0), -1);
        is("not sooner", y.exchanged(0, 1), -1);
        y = two();
        law(y, "bars if fuse = 0 and long = 4;burns long*[1+kind]");
        y.force(0);
        is("a swap by which it would not catch", y.exchanged(0, 0), -1);
        y.terms(0, 5);
        law(y, "burns long*[1+kind]");
        y.force(1);
        is("by laws of how long they are", y.exchanged(0, 1), 2 * (4 * 3 + 10));
        is("no knot", x.exchanged(8, 0), -1);
        is("no knot", x.exchanged(-1, 0), -1);
        is("no such", x.exchanged(0, 2), -1);
        x.soak(0);
        is("not all are out", x.exchanged(0, 0), -1);

        in("promise 30");
        x = two();
        is("match to fuse", x.measured(20, 0), 0);
        is("fuse to fuse, from 0", x.measured(8, 0), 0);
        is("how many", x.measured(8, 1), 1);
        is("from 1", x.measured(12, 0), 1);
        x.fuse(1, 3, 4, 0);
        is("two such", x.measured(8, 1), 2);
        x.fuse(3, 4, 60, 0);
        is("a long one", x.measured(148, 0), 0);
        is("none", x.measured(7, 0), -1);
        is("none", x.measured(7, 1), -1);
        is("too short", x.measured(0, 0), -1);
        is("too long", x.measured(401, 0), -1);
        is("no such", x.measured(8, 2), -1);
        x.soak(0);
        is("damp ones aside", x.measured(20, 0), -1);
        x = new FuseFrames();
        for (int i = 0; i < 5; i++) {
            x.fuse(i, (i + 1) % 5, i == 4 ? 4 : 60, 0);
        }
        law(x, "burns 99 if long = 60");
        x.force(0);
        is("around and together 400", x.measured(400, 0), 0);
        x.fuse(4, 5, 5, 0);
        x.fuse(5, 0, 1, 0);
        x.soak(4);
        is("not all are out", x.compare(0, 0), -1);
        x.soak(6);
        law(x, "burns 99 if long = 60;burns 5 if long = 4");
        x.force(1);
        x.soak(4);
        is("401 is there, but too long", x.out(1, 2), 401);
        is("too long", x.measured(401, 0), -1);
    }

    private static void guesses() {
        in("promise 31");
        FuseFrames x = chain();
        is("no knot", x.seen(8, 0), -1);
        is("no knot", x.seen(-1, 0), -1);
        is("too early", x.seen(0, -1), -1);
        is("too late", x.seen(0, 1000), -1);
        for (int i = 1; i <= 6; i++) {
            is("seen", x.seen(i, 999), i);
        }
        is("no room", x.seen(0, 0), -5);
        is("-1 is ahead", x.seen(8, 0), -1);
        in("promise 32");
        is("forget", x.forget(), 6);
        is("nothing", x.forget(), 0);
        is("count", x.count(4), 0);
        is("status stays", x.status(), -1);
        in("promise 33");
        is("everywhere", x.was(), 255);
        x.seen(2, 3);
        is("0 and 3", x.was(), 1 | 8);
        in("promise 34");
        is("where to look", x.look(0), 0);
        is("one is left", x.look(1), 1);
        is("no such", x.look(2), -1);
        is("no such", x.look(-1), -1);
        x.seen(3, 0);
        is("it was 3", x.was(), 8);
        x.seen(3, 1);
        is("it was none", x.was(), 0);
        is("it was none", x.look(0), -1);
        is("it was none", x.look(1), -1);
        x = new FuseFrames();
        x.fuse(0, 1, 5, 0);
        x.fuse(1, 2, 5, 0);
        is("never is alike", x.look(1), 5);
        x.fuse(3, 4, 1, 0);
        is("0, 2 alike at 1", x.look(0), 0);

        in("promise 35");
        x = new FuseFrames();
        x.fuse(0, 1, 5, 0);
        x.fuse(1, 2, 5, 0);
        x.fuse(0, 2, 20, 0);
        x.fuse(0, 2, 30, 1);
        x.fuse(5, 6, 30, 0);
        x.soak(4);
        is("by the long one", x.wet(0, 2, 20), 3);
        is("as now", x.wet(0, 2, 10), 12);
        is("never", x.wet(5, 6, -1), 15);
        is("not never", x.wet(0, 2, -1), 0);
        law(x, "bars if kind = 1");
        x.force(0);
        is("barred ones are not damp", x.wet(0, 2, 10), 12);
        is("there", x.wet(3, 3, 0), 15);
        is("no knot", x.wet(-1, 0, 0), -1);
        is("no knot", x.wet(0, 8, 0), -1);
        is("the last", x.wet(0, 2, 999), 0);
        is("too late", x.wet(0, 2, 1000), -1);
        is("below", x.wet(0, 2, -2), -1);
    }

    private static void chances() {
        in("promise 36");
        FuseFrames x = new FuseFrames();
        is("one", x.few(1, 3), 729000000000L);
        is("two of three", x.few(2, 3), 972000000000L);
        is("all", x.few(20, 12), 1000000000000L);
        x.terms(1, 0);
        is("no rain", x.few(1, 99), 1000000000000L);
        x.terms(1, 10);
        is("rain", x.few(5, 5), 0);
        is("rain", x.few(6, 5), 1000000000000L);
        x.terms(1, 5);
        is("exact as yet", x.few(1, 12), 244140625L);
        is("cut", x.few(1, 14), 61035156L);
        is("cut again", x.few(1, 15), 30517578L);
        is("of two", x.few(2, 14), 61035156L + 854492187L);
        x.terms(1, 3);
        is("each part is cut", x.few(3, 16), 99359680166L);
        is("k", x.few(0, 1), -1);
        is("k", x.few(21, 1), -1);
        is("n", x.few(1, -1), -1);
        is("n", x.few(1, 100), -1);

        in("promise 37");
        x = two();
        law(x, "burns 50");
        law(x, "bars");
        x.force(1);
        is("none", x.compare(-1, 0), 28);
        is("the one", x.compare(0, 0), 200);
        is("the other", x.compare(1, 0), -1);
        is("in force still", x.count(13), 1);
        is("no law", x.compare(2, 0), -1);
        is("no law", x.compare(-2, 0), -1);
        is("no knot", x.compare(0, 8), -1);
        is("no knot", x.compare(0, -1), -1);
        is("not all", x.compare(0, 5), -1);
        is("no fuses", new FuseFrames().compare(-1, 5), 0);
    }

    private static void eveningsAndImages() {
        in("promise 38");
        FuseFrames x = new FuseFrames();
        is("-1 is ahead", x.evenings(0, 0), -1);
        is("no fuses", x.evenings(0, 1), -3);
        x = two();
        is("seed", x.evenings(-1, 1), -1);
        is("seed", x.evenings(1000001, 1), -1);
        is("n", x.evenings(0, 61), -1);
        is("none yet", x.drawn(0, 0), -1);
        is("nothing is out", x.evenings(1000000, 1), 0);
        x.terms(0, 999);
        x.light(0);
        x.terms(0, 0);
        is("as calls would do", x.evenings(0, 60), goneByCalls(0, 60));
        is("as calls would do", x.evenings(77, 33), goneByCalls(77, 33));
        x.terms(0, 999);
        is("it ends at once", x.evenings(5, 60), 0);
        in("promise 39");
        is("as it was", x.drawn(0, 1), 999);
        is("as it was", x.drawn(1, 1), -1);
        x = two();
        x.evenings(0, 1);
        is("fuse 1 was drawn, at 628841 mod 8", x.drawn(1, 1), 0);
        is("nothing is so now", x.count(2), 0);
        is("not damp", x.drawn(1, 0), 0);
        x.fuse(3, 4, 5, 0);
        is("it was not there", x.drawn(2, 0), -1);
        is("no fuse", x.drawn(-1, 0), -1);
        is("no knot", x.drawn(8, 1), -1);
        is("no knot", x.drawn(-1, 1), -1);
        is("no such", x.drawn(0, 2), -1);
        x.evenings(-1, 0);
        is("refused: as it was", x.drawn(1, 1), 0);

        in("promise 40");
        x = two();
        is("image", x.image(1), 0);
        is("no such", x.image(2), -1);
        is("no such", x.image(-1), -1);
        x.soak(0);
        is("not kept", x.back(0), -2);
        is("no such", x.back(2), -1);
        is("no such", x.back(-1), -1);
        x.image(0);
        in("promise 41");
        x.fuse(5, 6, 7, 0);
        law(x, "burns 1");
        x.force(0);
        x.letter(1);
        x.seen(0, 0);
        x.light(0);
        x.pass();
        orders(x, "light 9");
        tape(x, "abc");
        x.evenings(0, 1);
        is("back", x.back(1), 0);
        is("nothing to undo", x.count(6), 0);
        int[] due = {2, 0, 0, 0, 0, 0, 0, 3, 4, 1, 1, 0, 0, -1, 0, 1, 0, 0};
        for (int what = 0; what < due.length; what++) {
            is("count(" + what + ")", x.count(what), due[what]);
        }
        is("stopped stays", x.stopped(), 0);
        is("the evenings stay", x.drawn(2, 0), 0);
        is("back to the other", x.back(0), 0);
        is("damp", x.of(0, 4), 1);
        x.seen(2, 4);
        x.letter(2);
        x.light(1);
        x.terms(2, 5);
        x.image(0);
        x.forget();
        x.seen(0, 4);
        x.back(0);
        is("what was seen", x.was(), 2);
        is("a letter", x.stands(2, 0), 8);
        is("a match", x.at(1, 0), 0);
        is("a term", x.count(16), 5);
        is("images stay", x.back(1), 0);
        is("not damp", x.of(0, 4), 0);
        x.end(0);
        law(x, "burns 2");
        x.image(1);
        x.back(0);
        law(x, "burns 3");
        x.force(0);
        is("a law of its own", x.of(0, 5), 3);
        x.back(1);
        x.force(0);
        is("the law of the image", x.of(0, 5), 2);
    }

    /** How many fuses are out if soak(), light() and pass() are called as evenings draw them. */
    private static int goneByCalls(int seed, int n) {
        long s = seed;
        FuseFrames y = two();
        y.terms(0, 999);
        y.light(0);
        y.terms(0, 0);
        int gone = 0;
        for (int i = 0; i < n; i++) {
            s = (s * 1103 + 12345) % 1000003;
            int f = (int) (s % 2);
            s = (s * 1103 + 12345) % 1000003;
            int k = (int) (s % 8);
            s = (s * 1103 + 12345) % 1000003;
            if (s % 3 == 0) {
                y.soak(f);
            } else if (s % 3 == 1) {
                y.light(k);
            }
            gone = y.pass();
        }
        return gone;
    }

    private static void countsAndStatus() {
        in("promise 42");
        FuseFrames x = two();
        x.fuse(0, 0, 0, 0);
        x.force(5);
        x.soak(5);
        x.undo();
        x.undo();
        x.undo();
        x.letter(1);
        x.letter(1);
        x.letter(1);
        x.letter(1);
        x.row();
        x.law();
        x.orders();
        x.seen(1, 1);
        x.soak(0);
        x.feed(0, 0, 0, 0, 0);
        x.of(99, 99);
        x.end(99);
        int[] due = {2, 1, 0, 3, 1, 0, 1, 20, 1, 2, 3, 1, 3, -1, 0, 1, 0, 0};
        for (int what = 0; what < due.length; what++) {
            is("count(" + what + ")", x.count(what), due[what]);
        }
        is("no such", x.count(18), -1);
        is("no such", x.count(-1), -1);

        in("promise 43");
        x = new FuseFrames();
        x.fuse(0, 0, 1, 0);
        is("fuse", x.status(), -1);
        x.fuse(0, 1, 1, 0);
        is("fuse", x.status(), 0);
        x.back(0);
        is("back", x.status(), -2);
        x.feed(0, 0, 0, 0, 0);
        x.end(-1);
        x.forget();
        x.when(-1, 0);
        x.few(0, 0);
        x.count(99);
        x.was();
        is("asking", x.status(), -2);
        x.letter(0);
        is("letter", x.status(), 0);
        x.terms(0, -1);
        is("terms", x.status(), -1);
        x.row();
        is("row", x.status(), 0);
        x.row();
        is("row", x.status(), -6);
        x.force(-1);
        is("force", x.status(), 0);
        x.law();
        is("law", x.status(), -6);
        law(x, "bars");
        is("law", x.status(), 0);
        orders(x, "light 9");
        is("orders", x.status(), -3);
        orders(x, "light 0");
        is("orders", x.status(), 0);
        x.light(0);
        is("light", x.status(), -3);
        x.soak(0);
        is("soak", x.status(), 0);
        x.soak(9);
        is("soak", x.status(), -2);
        x.pass();
        is("pass", x.status(), 0);
        x.swap(0, 0);
        is("swap", x.status(), -1);
        x.undo();
        is("undo", x.status(), 0);
        x.seen(9, 9);
        is("seen", x.status(), -1);
        x.evenings(0, 1);
        is("evenings", x.status(), 0);
        x.image(7);
        is("image", x.status(), -1);
        x.image(0);
        is("image", x.status(), 0);
    }

    public static void main(String[] args) {
        newObject();
        fuses();
        lettersAndTerms();
        tapes();
        laws();
        faults();
        ordersRun();
        deeds();
        paper();
        ways();
        guesses();
        chances();
        eveningsAndImages();
        countsAndStatus();
        finish();
    }
}
