import java.math.BigInteger;
import java.util.ArrayDeque;
import java.util.ArrayList;
import java.util.Arrays;
import java.util.Deque;
import java.util.List;
import java.util.Random;

/**
 * Long runs of calls on FuseFrames and on a second, slow program that was written from the document
 * in another way (ways gone through one by one, fuses burnt by half seconds, whole states kept for
 * undo); every answer must be the same.
 */
public final class ModelTest {
    private static final int RUNS = 2500;
    private static final int CALLS = 460;

    // ---- the second program

    /** A text that can't be; its message is the place. */
    private static final class Fault extends RuntimeException {
        private static final long serialVersionUID = 1L;
        final int place;

        Fault(int place) {
            this.place = place;
        }
    }

    private static final class Broken extends RuntimeException {
        private static final long serialVersionUID = 1L;
    }

    private static final class Token {
        final String text;
        final int place;

        Token(String text, int place) {
            this.text = text;
            this.place = place;
        }
    }

    private interface Facts {
        long of(String word, int number);
    }

    private interface Sum {
        long ask(Facts facts);
    }

    private interface Test {
        boolean ask(Facts facts);
    }

    private static final class Clause {
        String verb;
        Sum one;
        Sum other;
        Test test;
        int times = 1;
    }

    private static final class Parser {
        final List<Token> tokens = new ArrayList<>();
        final boolean law;
        int at = 0;
        int parts = 0;
        int open = 0;

        Parser(String text, boolean law) {
            this.law = law;
            java.util.regex.Matcher m =
                    java.util.regex.Pattern.compile("[a-z]+|[0-9]+|[^ ]", java.util.regex.Pattern.DOTALL)
                            .matcher(text);
            while (m.find()) {
                tokens.add(new Token(m.group(), m.start()));
            }
            tokens.add(new Token("", text.length()));
        }

        String now() {
            return tokens.get(at).text;
        }

        Fault fault() {
            return new Fault(tokens.get(at).place);
        }

        boolean got(String text) {
            if (!now().equals(text)) {
                return false;
            }
            at++;
            return true;
        }

        void need(String text) {
            if (!got(text)) {
                throw fault();
            }
        }

        List<Clause> all() {
            List<Clause> clauses = new ArrayList<>();
            do {
                if (clauses.size() == 12) {
                    throw fault();
                }
                clauses.add(clause());
            } while (got(";"));
            if (!now().isEmpty()) {
                throw fault();
            }
            return clauses;
        }

        Clause clause() {
            Clause c = new Clause();
            c.verb = now();
            List<String> verbs = law ? List.of("burns", "holds", "bars")
                    : List.of("light", "soak", "swap", "pass");
            if (!verbs.contains(c.verb)) {
                throw fault();
            }
            at++;
            if (!c.verb.equals("bars") && !c.verb.equals("pass")) {
                c.one = sum();
            }
            if (c.verb.equals("swap")) {
                need("with");
                c.other = sum();
            }
            if (!law && got("times")) {
                c.times = number(1, 20);
            }
            if (got("if")) {
                c.test = test();
            }
            return c;
        }

        int number(int least, int most) {
            if (!now().matches("[0-9]+")) {
                throw fault();
            }
            BigInteger n = new BigInteger(now());
            if (n.compareTo(BigInteger.valueOf(least)) < 0 || n.compareTo(BigInteger.valueOf(most)) > 0) {
                throw fault();
            }
            at++;
            return n.intValue();
        }

        Test test() {
            List<Test> any = new ArrayList<>();
            do {
                List<Test> all = new ArrayList<>();
                do {
                    all.add(plain());
                } while (got("and"));
                any.add(f -> {
                    for (Test t : all) {
                        if (!t.ask(f)) {
                            return false;
                        }
                    }
                    return true;
                });
            } while (got("or"));
            return f -> {
                for (Test t : any) {
                    if (t.ask(f)) {
                        return true;
                    }
                }
                return false;
            };
        }

        void opening() {
            if (++open > 8) {
                throw fault();
            }
            at++;
        }

        Test plain() {
            if (got("not")) {
                Test t = plain();
                return f -> !t.ask(f);
            }
            if (now().equals("(")) {
                opening();
                Test t = test();
                need(")");
                open--;
                return t;
            }
            Sum a = sum();
            String sign = now();
            if (!sign.equals("<") && !sign.equals(">") && !sign.equals("=")) {
                throw fault();
            }
            at++;
            Sum b = sum();
            return f -> {
                int c = Long.compare(a.ask(f), b.ask(f));
                return sign.equals("<") ? c < 0 : sign.equals(">") ? c > 0 : c == 0;
            };
        }

        static long fit(long v) {
            if (Math.abs(v) > 1_000_000_000L) {
                throw new Broken();
            }
            return v;
        }

        Sum sum() {
            Sum left = term();
            while (now().equals("+") || now().equals("-")) {
                boolean plus = now().equals("+");
                at++;
                Sum a = left;
                Sum b = term();
                left = f -> fit(plus ? a.ask(f) + b.ask(f) : a.ask(f) - b.ask(f));
            }
            return left;
        }

        Sum term() {
            Sum left = part();
            while (now().equals("*") || now().equals("/") || now().equals("%")) {
                String sign = now();
                at++;
                Sum a = left;
                Sum b = part();
                left = f -> {
                    long x = a.ask(f);
                    long y = b.ask(f);
                    if (sign.equals("*")) {
                        return fit(x * y);
                    }
                    if (y == 0) {
                        throw new Broken();
                    }
                    return sign.equals("/") ? x / y : x % y;
                };
            }
            return left;
        }

        Sum part() {
            if (now().equals("[")) {
                opening();
                Sum s = sum();
                need("]");
                open--;
                return s;
            }
            if (++parts > 50) {
                throw fault();
            }
            if (now().matches("[0-9]+")) {
                int n = number(0, 1000);
                return f -> n;
            }
            String word = now();
            List<String> words = law
                    ? List.of("fuse", "kind", "long", "from", "to", "knot", "ends", "second", "mood")
                    : List.of("second", "done", "latest", "gone", "damp", "lit", "long");
            if (!words.contains(word)) {
                throw fault();
            }
            at++;
            if (!law && word.equals("lit")) {
                int k = number(0, 7);
                return f -> f.of("lit", k);
            }
            if (!law && word.equals("long")) {
                int k = number(0, 9);
                return f -> f.of("long", k);
            }
            return f -> f.of(word, 0);
        }
    }

    private static final class State {
        List<int[]> fuses = new ArrayList<>(); // from, to, long, kind, damp
        int[] match = {-1, -1, -1, -1, -1, -1, -1, -1};
        List<Integer> letters = new ArrayList<>();
        List<int[]> seen = new ArrayList<>();
        int[] terms = {0, 1, 0};
        List<List<Clause>> laws = new ArrayList<>();
        int force = -1;

        State copy() {
            State c = new State();
            for (int[] f : fuses) {
                c.fuses.add(f.clone());
            }
            c.match = match.clone();
            c.letters = new ArrayList<>(letters);
            c.seen = new ArrayList<>(seen);
            c.terms = terms.clone();
            c.laws = new ArrayList<>(laws);
            c.force = force;
            return c;
        }

        List<Clause> inForce() {
            return lawOf(force);
        }

        List<Clause> lawOf(int n) {
            return n < 0 ? List.of() : laws.get(n);
        }

        Facts fuseFacts(int f) {
            int[] x = fuses.get(f);
            return (w, n) -> switch (w) {
                case "fuse" -> f;
                case "kind" -> x[3];
                case "long" -> x[2];
                case "from" -> x[0];
                case "to" -> x[1];
                case "second" -> terms[0];
                case "mood" -> terms[2];
                default -> -1;
            };
        }

        Facts knotFacts(int k) {
            long ends = fuses.stream().filter(x -> x[0] == k || x[1] == k).count();
            return (w, n) -> switch (w) {
                case "knot" -> k;
                case "ends" -> ends;
                case "second" -> terms[0];
                case "mood" -> terms[2];
                default -> -1;
            };
        }

        /** What a clause tells, or null if it does not hold. */
        static Long told(Clause c, Facts facts) {
            try {
                if (c.test != null && !c.test.ask(facts)) {
                    return null;
                }
                return c.one == null ? 0L : (Long) c.one.ask(facts);
            } catch (Broken b) {
                return null;
            }
        }

        int burns(int f, List<Clause> law) {
            long b = fuses.get(f)[2];
            for (Clause c : law) {
                Long told = c.verb.equals("burns") ? told(c, fuseFacts(f)) : null;
                b = told == null ? b : told < 1 ? 1 : told > 99 ? 99 : told;
            }
            return (int) b;
        }

        int holds(int k, List<Clause> law) {
            long h = 0;
            for (Clause c : law) {
                Long told = c.verb.equals("holds") ? told(c, knotFacts(k)) : null;
                h = told == null ? h : told < 0 ? 0 : told > 9 ? 9 : told;
            }
            return (int) h;
        }

        boolean catches(int f, List<Clause> law) {
            return fuses.get(f)[4] == 0
                    && law.stream().noneMatch(c -> c.verb.equals("bars") && told(c, fuseFacts(f)) != null);
        }
    }

    /** Fire in a state by a law, by every way there is. */
    private static final class Blaze {
        final State s;
        final int[] burns;
        final int[] holds = new int[8];
        final boolean[] catches;
        int[] comes;

        Blaze(State s, List<Clause> law) {
            this.s = s;
            int n = s.fuses.size();
            burns = new int[n];
            catches = new boolean[n];
            for (int f = 0; f < n; f++) {
                burns[f] = s.burns(f, law);
                catches[f] = s.catches(f, law);
            }
            for (int k = 0; k < 8; k++) {
                holds[k] = s.holds(k, law);
            }
        }

        Blaze from(int[] start) {
            comes = new int[8];
            Arrays.fill(comes, -1);
            for (int k = 0; k < 8; k++) {
                if (start[k] >= 0) {
                    walk(k, start[k], 0);
                }
            }
            return this;
        }

        Blaze fromBits(int knots) {
            int[] start = new int[8];
            for (int k = 0; k < 8; k++) {
                start[k] = (knots >> k & 1) == 1 ? 0 : -1;
            }
            return from(start);
        }

        void walk(int k, int t, int been) {
            if (comes[k] < 0 || t < comes[k]) {
                comes[k] = t;
            } else if (t > comes[k]) {
                return;
            }
            for (int f = 0; f < burns.length; f++) {
                int[] x = s.fuses.get(f);
                if (!catches[f] || x[0] != k && x[1] != k) {
                    continue;
                }
                int o = x[0] == k ? x[1] : x[0];
                if ((been >> o & 1) == 0) {
                    walk(o, t + holds[k] + burns[f], been | 1 << k);
                }
            }
        }

        int out(int f) {
            int[] x = s.fuses.get(f);
            if (!catches[f] || comes[x[0]] < 0 && comes[x[1]] < 0) {
                return -1;
            }
            int a = comes[x[0]] < 0 ? 1000000 : comes[x[0]] + holds[x[0]];
            int b = comes[x[1]] < 0 ? 1000000 : comes[x[1]] + holds[x[1]];
            for (int t = 0; ; t++) {
                if (Math.max(0, t - 2 * a) + Math.max(0, t - 2 * b) >= 2 * burns[f]) {
                    return t;
                }
            }
        }

        int last(int bits) {
            int last = 0;
            for (int f = 0; f < burns.length; f++) {
                if ((bits >> f & 1) == 1) {
                    int o = out(f);
                    if (o < 0) {
                        return -1;
                    }
                    last = Math.max(last, o);
                }
            }
            return last;
        }

        int gone() {
            int n = 0;
            for (int f = 0; f < burns.length; f++) {
                int o = out(f);
                if (o >= 0 && o <= 2 * s.terms[0]) {
                    n++;
                }
            }
            return n;
        }

        void ways(int k, int to, int t, int been, List<Integer> row, List<List<Integer>> found, List<Integer> times) {
            if (k == to) {
                found.add(new ArrayList<>(row));
                times.add(t);
                return;
            }
            for (int f = 0; f < burns.length; f++) {
                int[] x = s.fuses.get(f);
                int o = x[0] == k ? x[1] : x[0];
                if (!catches[f] || x[0] != k && x[1] != k || (been >> o & 1) == 1) {
                    continue;
                }
                row.add(f);
                ways(o, to, t + holds[k] + burns[f], been | 1 << k, row, found, times);
                row.remove(row.size() - 1);
            }
        }
    }

    private static final class Model {
        State s = new State();
        Deque<State> before = new ArrayDeque<>();
        Deque<Integer> deeds = new ArrayDeque<>();
        String tape = "";
        int fault = -1;
        int ash = 0;
        int stopped = -1;
        int status = 0;
        int[] refused = new int[7];
        State evening = null;
        State[] images = new State[2];

        int ok(int v) {
            status = 0;
            return v;
        }

        int no(int by) {
            status = by;
            refused[-by]++;
            return by;
        }

        static boolean in(int v, int a, int b) {
            return v >= a && v <= b;
        }

        boolean isFuse(int f) {
            return in(f, 0, s.fuses.size() - 1);
        }

        Blaze blaze() {
            return new Blaze(s, s.inForce());
        }

        Blaze real(State st) {
            return new Blaze(st, st.inForce()).from(st.match);
        }

        void forgetDeeds() {
            before.clear();
            deeds.clear();
        }

        void keep(int deed) {
            before.addLast(s.copy());
            deeds.addLast(deed);
            if (before.size() > 16) {
                before.removeFirst();
                deeds.removeFirst();
            }
        }

        static boolean can(int a, int b, int l, int k) {
            return in(a, 0, 7) && in(b, 0, 7) && a != b && in(l, 1, 60) && in(k, 0, 3);
        }

        int fuse(int a, int b, int l, int k) {
            if (!can(a, b, l, k)) {
                return no(-1);
            }
            if (s.fuses.size() == 10) {
                return no(-5);
            }
            s.fuses.add(new int[] {a, b, l, k, 0});
            forgetDeeds();
            return ok(s.fuses.size() - 1);
        }

        int of(int f, int what) {
            if (!isFuse(f) || !in(what, 0, 7)) {
                return -1;
            }
            if (what < 5) {
                return s.fuses.get(f)[what];
            }
            if (what == 5) {
                return s.burns(f, s.inForce());
            }
            return what == 6 ? s.catches(f, s.inForce()) ? 1 : 0 : real(s).out(f);
        }

        int at(int k, int what) {
            if (!in(k, 0, 7) || !in(what, 0, 2)) {
                return -1;
            }
            return what == 0 ? s.match[k] : what == 1 ? s.holds(k, s.inForce()) : real(s).comes[k];
        }

        int letter(int bits) {
            if (!in(bits, 0, 1023)) {
                return no(-1);
            }
            if (s.letters.size() == 3) {
                return no(-5);
            }
            s.letters.add(bits);
            return ok(s.letters.size() - 1);
        }

        int terms(int what, int v) {
            int[] most = {999, 10, 9};
            if (!in(what, 0, 2) || !in(v, 0, most[what])) {
                return no(-1);
            }
            int was = s.terms[what];
            s.terms[what] = v;
            forgetDeeds();
            return ok(was);
        }

        int feed(int... fours) {
            if (tape.length() + 20 > 400) {
                return -1;
            }
            StringBuilder b = new StringBuilder(tape);
            for (int x : fours) {
                for (int shift = 24; shift >= 0; shift -= 8) {
                    b.append((char) (x >>> shift & 255));
                }
            }
            tape = b.toString();
            return tape.length();
        }

        int end(int n) {
            if (n < 0 || n > tape.length()) {
                return -1;
            }
            tape = tape.substring(0, n);
            return n;
        }

        int row() {
            if (tape.isEmpty()) {
                return no(-6);
            }
            int came = 0;
            ash = 0;
            for (int i = 0; i < tape.length(); i += 4) {
                if (i + 4 <= tape.length() && s.fuses.size() < 10
                        && can(tape.charAt(i), tape.charAt(i + 1), tape.charAt(i + 2), tape.charAt(i + 3))) {
                    s.fuses.add(new int[] {tape.charAt(i), tape.charAt(i + 1), tape.charAt(i + 2),
                            tape.charAt(i + 3), 0});
                    came++;
                } else {
                    ash++;
                }
            }
            tape = "";
            forgetDeeds();
            return ok(came);
        }

        List<Clause> read(boolean law) {
            String text = tape;
            tape = "";
            fault = -1;
            try {
                return new Parser(text, law).all();
            } catch (Fault f) {
                fault = f.place;
                return null;
            }
        }

        int law() {
            if (s.laws.size() == 6) {
                tape = "";
                return no(-5);
            }
            List<Clause> read = read(true);
            if (read == null) {
                return no(-6);
            }
            s.laws.add(read);
            return ok(s.laws.size() - 1);
        }

        int done;
        int latest;

        long fact(String w, int n) {
            return switch (w) {
                case "second" -> s.terms[0];
                case "done" -> done;
                case "latest" -> latest;
                case "gone" -> real(s).gone();
                case "damp" -> s.fuses.stream().filter(x -> x[4] == 1).count();
                case "lit" -> s.match[n];
                default -> isFuse(n) ? s.fuses.get(n)[2] : -1;
            };
        }

        int orders() {
            List<Clause> read = read(false);
            stopped = -1;
            if (read == null) {
                return no(-6);
            }
            State start = s.copy();
            Deque<State> b = new ArrayDeque<>(before);
            Deque<Integer> d = new ArrayDeque<>(deeds);
            done = 0;
            latest = -1;
            for (int i = 0; i < read.size(); i++) {
                for (int t = 0; t < read.get(i).times; t++) {
                    if (!runOnce(read.get(i))) {
                        stopped = i;
                        s = start;
                        before = b;
                        deeds = d;
                        return no(-3);
                    }
                }
            }
            return ok(done);
        }

        boolean runOnce(Clause c) {
            try {
                if (c.test != null && !c.test.ask(this::fact)) {
                    return true;
                }
            } catch (Broken e) {
                return true;
            }
            int r;
            try {
                int one = c.one == null ? 0 : (int) c.one.ask(this::fact);
                int other = c.other == null ? 0 : (int) c.other.ask(this::fact);
                r = switch (c.verb) {
                    case "light" -> doLight(one);
                    case "soak" -> doSoak(one);
                    case "swap" -> doSwap(one, other);
                    default -> doPass();
                };
            } catch (Broken e) {
                return false;
            }
            if (r < 0) {
                return false;
            }
            done++;
            if (c.verb.equals("pass")) {
                latest = r;
            }
            return true;
        }

        int doLight(int k) {
            if (!in(k, 0, 7)) {
                return -1;
            }
            if (s.match[k] >= 0) {
                return -3;
            }
            keep(0);
            s.match[k] = s.terms[0];
            return s.terms[0];
        }

        int doSoak(int f) {
            if (!isFuse(f)) {
                return -2;
            }
            keep(1);
            s.fuses.get(f)[4] = 1 - s.fuses.get(f)[4];
            return s.fuses.get(f)[4];
        }

        int doSwap(int a, int b) {
            if (a == b) {
                return -1;
            }
            if (!isFuse(a) || !isFuse(b)) {
                return -2;
            }
            keep(2);
            int l = s.fuses.get(a)[2];
            s.fuses.get(a)[2] = s.fuses.get(b)[2];
            s.fuses.get(b)[2] = l;
            return s.fuses.get(a)[2];
        }

        int doPass() {
            if (s.terms[0] == 999) {
                return -3;
            }
            keep(3);
            s.terms[0]++;
            return real(s).gone();
        }

        int wrap(int v) {
            return v < 0 ? no(v) : ok(v);
        }

        int force(int l) {
            if (!in(l, -1, s.laws.size() - 1)) {
                return no(-2);
            }
            int was = s.force;
            s.force = l;
            return ok(was);
        }

        int undo() {
            if (deeds.isEmpty()) {
                return no(-3);
            }
            State b = before.removeLast();
            // Letters, seen things, laws and the law in force may have come since: they stay.
            b.letters = s.letters;
            b.seen = s.seen;
            b.laws = s.laws;
            b.force = s.force;
            s = b;
            return ok(deeds.removeLast());
        }

        int when(int knots, int k) {
            return in(knots, 0, 255) && in(k, 0, 7) ? blaze().fromBits(knots).comes[k] : -1;
        }

        int out(int knots, int f) {
            return in(knots, 0, 255) && isFuse(f) ? blaze().fromBits(knots).out(f) : -1;
        }

        int stands(int knots, int l) {
            return in(knots, 0, 255) && in(l, 0, s.letters.size() - 1)
                    ? blaze().fromBits(knots).last(s.letters.get(l)) : -1;
        }

        int best(int n, int what) {
            if (!in(n, 1, 3) || !in(what, 0, 1)) {
                return -1;
            }
            int[] found = {-1, -1};
            Blaze b = blaze();
            for (int knots = 255; knots >= 0; knots--) {
                int last = Integer.bitCount(knots) == n ? b.fromBits(knots).last(1023) : -1;
                if (last >= 0 && (found[0] < 0 || last <= found[0])) {
                    found = new int[] {last, knots};
                }
            }
            return found[what];
        }

        int even(int what) {
            if (!in(what, 0, 1) || s.letters.isEmpty()) {
                return -1;
            }
            int[] found = {-1, -1};
            Blaze b = blaze();
            for (int k = 7; k >= 0; k--) {
                b.fromBits(1 << k);
                int[] all = s.letters.stream().mapToInt(b::last).sorted().toArray();
                int span = all[all.length - 1] - all[0];
                if (all[0] >= 0 && (found[0] < 0 || span <= found[1])) {
                    found = new int[] {k, span};
                }
            }
            return found[what];
        }

        int centre(int what) {
            if (!in(what, 0, 1)) {
                return -1;
            }
            int[] found = {-1, -1};
            Blaze b = blaze();
            for (int k = 7; k >= 0; k--) {
                int[] all = b.fromBits(1 << k).comes.clone();
                Arrays.sort(all);
                if (all[0] >= 0 && (found[0] < 0 || all[7] <= found[1])) {
                    found = new int[] {k, all[7]};
                }
            }
            return found[what];
        }

        int way(int from, int to, int i) {
            if (!in(from, 0, 7) || !in(to, 0, 7) || i < -1) {
                return -1;
            }
            List<List<Integer>> found = new ArrayList<>();
            List<Integer> times = new ArrayList<>();
            blaze().ways(from, to, 0, 0, new ArrayList<>(), found, times);
            int best = -1;
            for (int w = 0; w < found.size(); w++) {
                if (best < 0 || times.get(w) < times.get(best)
                        || times.get(w).equals(times.get(best)) && isAhead(found.get(w), found.get(best))) {
                    best = w;
                }
            }
            if (best < 0) {
                return -1;
            }
            return i == -1 ? times.get(best) : i < found.get(best).size() ? found.get(best).get(i) : -1;
        }

        static boolean isAhead(List<Integer> a, List<Integer> b) {
            for (int i = 0; i < Math.min(a.size(), b.size()); i++) {
                if (!a.get(i).equals(b.get(i))) {
                    return a.get(i) < b.get(i);
                }
            }
            return a.size() < b.size();
        }

        int cut(int from, int to, int what) {
            if (!in(from, 0, 7) || !in(to, 0, 7) || from == to || !in(what, 0, 1)) {
                return -1;
            }
            int best = -1;
            Blaze b = blaze();
            boolean[] catches = b.catches.clone();
            for (int bits = 0; bits < 1 << s.fuses.size(); bits++) {
                boolean all = true;
                for (int f = 0; f < catches.length; f++) {
                    boolean cut = (bits >> f & 1) == 1;
                    all &= catches[f] || !cut;
                    b.catches[f] = catches[f] && !cut;
                }
                if (all && (best < 0 || Integer.bitCount(bits) < Integer.bitCount(best))
                        && b.fromBits(1 << from).comes[to] < 0) {
                    best = bits;
                }
            }
            return what == 0 ? Integer.bitCount(best) : best;
        }

        int exchanged(int k, int what) {
            if (!in(k, 0, 7) || !in(what, 0, 1)) {
                return -1;
            }
            int now = blaze().fromBits(1 << k).last(1023);
            int[] found = {-1, -1};
            for (int a = 0; a < s.fuses.size() && now >= 0; a++) {
                for (int b = a + 1; b < s.fuses.size(); b++) {
                    State c = s.copy();
                    c.fuses.get(a)[2] = s.fuses.get(b)[2];
                    c.fuses.get(b)[2] = s.fuses.get(a)[2];
                    int last = new Blaze(c, c.inForce()).fromBits(1 << k).last(1023);
                    if (last >= 0 && last < now && (found[0] < 0 || last < found[1])) {
                        found = new int[] {10 * a + b, last};
                    }
                }
            }
            return found[what];
        }

        int measured(int h, int what) {
            if (!in(h, 1, 400) || !in(what, 0, 1)) {
                return -1;
            }
            Blaze b = blaze();
            for (int k = 0; k < 8; k++) {
                b.fromBits(1 << k);
                List<Integer> all = new ArrayList<>(List.of(0));
                for (int f = 0; f < s.fuses.size(); f++) {
                    if (b.out(f) >= 0) {
                        all.add(b.out(f));
                    }
                }
                int twos = 0;
                for (int x : all) {
                    for (int y : all) {
                        twos += y - x == h ? 1 : 0;
                    }
                }
                if (twos > 0) {
                    return what == 0 ? k : twos;
                }
            }
            return -1;
        }

        int seen(int k, int sec) {
            if (!in(k, 0, 7) || !in(sec, 0, 999)) {
                return no(-1);
            }
            if (s.seen.size() == 6) {
                return no(-5);
            }
            s.seen.add(new int[] {k, sec});
            return ok(s.seen.size());
        }

        int forget() {
            int n = s.seen.size();
            s.seen = new ArrayList<>();
            return n;
        }

        int was() {
            int bits = 0;
            Blaze b = blaze();
            for (int k = 0; k < 8; k++) {
                int[] comes = b.fromBits(1 << k).comes;
                if (s.seen.stream().allMatch(x -> comes[x[0]] == x[1])) {
                    bits |= 1 << k;
                }
            }
            return bits;
        }

        int look(int what) {
            int was = was();
            if (!in(what, 0, 1) || was == 0) {
                return -1;
            }
            Blaze b = blaze();
            int[][] comes = new int[8][];
            for (int k = 0; k < 8; k++) {
                comes[k] = b.fromBits(1 << k).comes;
            }
            int[] found = {-1, 9};
            for (int q = 0; q < 8; q++) {
                java.util.Map<Integer, Integer> groups = new java.util.HashMap<>();
                for (int k = 0; k < 8; k++) {
                    if ((was >> k & 1) == 1) {
                        groups.merge(comes[k][q], 1, Integer::sum);
                    }
                }
                int most = groups.values().stream().max(Integer::compare).orElseThrow();
                if (most < found[1]) {
                    found = new int[] {q, most};
                }
            }
            return found[what];
        }

        int wet(int from, int to, int sec) {
            if (!in(from, 0, 7) || !in(to, 0, 7) || !in(sec, -1, 999)) {
                return -1;
            }
            int bits = 0;
            for (int f = 0; f < s.fuses.size(); f++) {
                State c = s.copy();
                c.fuses.get(f)[4] = 1;
                if (s.fuses.get(f)[4] == 0 && new Blaze(c, c.inForce()).fromBits(1 << from).comes[to] == sec) {
                    bits |= 1 << f;
                }
            }
            return bits;
        }

        long few(int k, int n) {
            if (!in(k, 1, 20) || !in(n, 0, 99)) {
                return -1;
            }
            BigInteger[] p = new BigInteger[100];
            Arrays.fill(p, BigInteger.ZERO);
            p[0] = BigInteger.TEN.pow(12);
            BigInteger wet = BigInteger.valueOf(s.terms[1]);
            BigInteger dry = BigInteger.TEN.subtract(wet);
            for (int i = 0; i < n; i++) {
                BigInteger[] q = new BigInteger[100];
                for (int j = 0; j < 100; j++) {
                    BigInteger stay = p[j].multiply(dry).divide(BigInteger.TEN);
                    BigInteger come = j == 0 ? BigInteger.ZERO : p[j - 1].multiply(wet).divide(BigInteger.TEN);
                    q[j] = stay.add(come);
                }
                p = q;
            }
            BigInteger sum = BigInteger.ZERO;
            for (int j = 0; j < k; j++) {
                sum = sum.add(p[j]);
            }
            return sum.longValueExact();
        }

        int compare(int l, int k) {
            return in(l, -1, s.laws.size() - 1) && in(k, 0, 7)
                    ? new Blaze(s, s.lawOf(l)).fromBits(1 << k).last(1023) : -1;
        }

        int evenings(int seed, int n) {
            if (!in(seed, 0, 1000000) || !in(n, 1, 60)) {
                return no(-1);
            }
            if (s.fuses.isEmpty()) {
                return no(-3);
            }
            State e = s.copy();
            long d = seed;
            for (int i = 0; i < n; i++) {
                if (e.terms[0] == 999) {
                    break;
                }
                int[] draw = new int[3];
                int[] of = {e.fuses.size(), 8, 3};
                for (int j = 0; j < 3; j++) {
                    d = (d * 1103 + 12345) % 1000003;
                    draw[j] = (int) (d % of[j]);
                }
                if (draw[2] == 0) {
                    e.fuses.get(draw[0])[4] ^= 1;
                }
                if (draw[2] == 1 && e.match[draw[1]] < 0) {
                    e.match[draw[1]] = e.terms[0];
                }
                e.terms[0]++;
            }
            evening = e;
            return ok(real(e).gone());
        }

        int drawn(int k, int what) {
            if (evening == null) {
                return -1;
            }
            if (what == 0 && in(k, 0, evening.fuses.size() - 1)) {
                return evening.fuses.get(k)[4];
            }
            return what == 1 && in(k, 0, 7) ? evening.match[k] : -1;
        }

        int image(int k) {
            if (!in(k, 0, 1)) {
                return no(-1);
            }
            images[k] = s.copy();
            return ok(0);
        }

        int back(int k) {
            if (!in(k, 0, 1)) {
                return no(-1);
            }
            if (images[k] == null) {
                return no(-2);
            }
            s = images[k].copy();
            forgetDeeds();
            return ok(0);
        }

        int count(int what) {
            return switch (what) {
                case 0 -> s.fuses.size();
                case 1 -> (int) s.fuses.stream().filter(x -> x[4] == 1).count();
                case 2 -> (int) Arrays.stream(s.match).filter(m -> m >= 0).count();
                case 3 -> s.letters.size();
                case 4 -> s.seen.size();
                case 5 -> s.laws.size();
                case 6 -> deeds.size();
                case 7 -> tape.length();
                case 8 -> refused[1];
                case 9 -> refused[2];
                case 10 -> refused[3];
                case 11 -> refused[5];
                case 12 -> refused[6];
                case 13 -> s.force;
                case 14 -> s.terms[0];
                case 15 -> s.terms[1];
                case 16 -> s.terms[2];
                case 17 -> real(s).gone();
                default -> -1;
            };
        }
    }

    // ---- texts by draws

    private static final class Writer {
        final Random r;
        final boolean law;

        Writer(Random r, boolean law) {
            this.r = r;
            this.law = law;
        }

        String one(String... of) {
            return of[r.nextInt(of.length)];
        }

        String text() {
            if (r.nextInt(40) == 0) {
                return manyParts();
            }
            if (r.nextInt(40) == 0) {
                return deepBrackets();
            }
            int n = r.nextInt(25) == 0 ? 10 + r.nextInt(5) : 1 + r.nextInt(4);
            StringBuilder b = new StringBuilder();
            for (int i = 0; i < n; i++) {
                b.append(i == 0 ? "" : ";").append(n > 8 ? one("bars", "pass", "burns 1") : clause());
            }
            String t = b.toString();
            if (n > 8) {
                t = t.replace(law ? "pass" : "bars", law ? "bars" : "pass").replace("burns 1", law ? "burns 1" : "pass");
            }
            return r.nextInt(5) == 0 ? spoilt(t) : t;
        }

        String manyParts() {
            StringBuilder b = new StringBuilder(law ? "burns 1" : "light 0");
            int n = 46 + r.nextInt(8);
            for (int i = 1; i < n; i++) {
                b.append(one("+", "-")).append(i % 9 == 0 ? one("second", "[1]") : one("1", "2", "0"));
            }
            return b.toString();
        }

        String deepBrackets() {
            int n = 6 + r.nextInt(5);
            int m = r.nextInt(n + 1);
            return (law ? "bars if " : "pass if ") + "(".repeat(m) + "[".repeat(n - m) + "1" + "]".repeat(n - m)
                    + one("<", "=") + "second" + ")".repeat(m);
        }

        String clause() {
            String c;
            if (law) {
                c = one("burns ", "holds ", "burns ", "bars");
                c += c.equals("bars") ? "" : sum(2);
            } else {
                c = one("light ", "soak ", "swap ", "pass", "pass");
                if (!c.equals("pass")) {
                    c += r.nextInt(4) == 0 ? sum(1) : "" + r.nextInt(c.equals("light ") ? 8 : 5);
                }
                if (c.startsWith("swap")) {
                    c += " with " + (r.nextInt(3) == 0 ? sum(1) : "" + r.nextInt(5));
                }
                if (r.nextInt(4) == 0) {
                    c += " times " + (r.nextInt(30) == 0 ? r.nextInt(25) : 1 + r.nextInt(20));
                }
            }
            if (r.nextInt(2) == 0) {
                c += " if " + test(2);
            }
            return c;
        }

        String test(int deep) {
            int k = deep == 0 ? 9 : r.nextInt(10);
            if (k < 2) {
                return test(deep - 1) + one(" or ", " and ") + test(deep - 1);
            }
            if (k == 2) {
                return "not " + test(deep - 1);
            }
            if (k == 3) {
                return "(" + test(deep - 1) + ")";
            }
            return sum(1) + one("<", ">", "=", " < ", " > ") + sum(1);
        }

        String sum(int deep) {
            int k = deep == 0 ? 9 : r.nextInt(10);
            if (k < 4) {
                return sum(deep - 1) + one("+", "-", "*", "/", "%", "*1000*", " - ") + sum(deep - 1);
            }
            if (k == 4) {
                return "[" + sum(deep - 1) + "]";
            }
            if (r.nextInt(2) == 0) {
                return "" + (r.nextInt(6) == 0 ? r.nextInt(1003) : r.nextInt(12));
            }
            if (law) {
                return one("fuse", "kind", "long", "from", "to", "knot", "ends", "second", "mood");
            }
            return one("second", "done", "latest", "gone", "damp", "lit " + r.nextInt(r.nextInt(30) == 0 ? 9 : 8),
                    "long " + r.nextInt(r.nextInt(30) == 0 ? 11 : 10));
        }

        String spoilt(String t) {
            int at = r.nextInt(t.length() + 1);
            switch (r.nextInt(4)) {
                case 0: return t.substring(0, at);
                case 1: return t.substring(0, at) + t.substring(Math.min(t.length(), at + 1 + r.nextInt(3)));
                case 2: return t.substring(0, at) + one(" ", ";", "x", "if", " not ", "(", ")", "[", "]", "7", "A",
                        "" + (char) (128 + r.nextInt(128)), "\t", " and ", " mood ", " gone ") + t.substring(at);
                default: return t + " ".repeat(r.nextInt(4));
            }
        }
    }

    // ---- the runs

    private final Random r;
    private final FuseFrames x = new FuseFrames();
    private final Model m = new Model();
    private final List<String> told = new ArrayList<>();
    private final int run;
    private boolean wrong = false;
    private int used = 0;

    private ModelTest(int run) {
        this.run = run;
        this.r = new Random(run * 7919L + 17);
    }

    private void same(String call, long got, long want) {
        used++;
        told.add(call + " = " + got);
        if (got != want && !wrong) {
            wrong = true;
            System.out.println("run " + run + ": " + call + " answered " + got + ", the model says " + want);
            int from = Math.max(0, told.size() - 30);
            for (String t : told.subList(from, told.size())) {
                System.out.println("    " + t);
            }
        }
    }

    private int near(int most) {
        return r.nextInt(12) == 0 ? r.nextInt(most + 4) - 2 : r.nextInt(most + 1);
    }

    private void feedBytes(String text) {
        int c = m.tape.length();
        StringBuilder b = new StringBuilder(text);
        while (b.length() % 20 != 0) {
            b.append((char) r.nextInt(256));
        }
        for (int i = 0; i < b.length(); i += 20) {
            int[] v = new int[5];
            for (int j = 0; j < 20; j++) {
                v[j / 4] = v[j / 4] << 8 | b.charAt(i + j);
            }
            same("feed(" + Arrays.toString(v) + ")", x.feed(v[0], v[1], v[2], v[3], v[4]), m.feed(v));
        }
        int n = c + text.length();
        same("end(" + n + ")", x.end(n), m.end(n));
    }

    private void feedText(boolean law) {
        String t = new Writer(r, law).text();
        if (t.length() > 400) {
            t = t.substring(0, 400);
        }
        told.add("the text is: " + t);
        feedBytes(t);
    }

    private void feedRow() {
        StringBuilder b = new StringBuilder();
        int n = 1 + r.nextInt(3);
        for (int i = 0; i < n; i++) {
            b.append((char) r.nextInt(9)).append((char) r.nextInt(9)).append((char) r.nextInt(64)).append((char) r.nextInt(5));
        }
        b.setLength(b.length() - (r.nextInt(4) == 0 ? 1 + r.nextInt(3) : 0));
        feedBytes(b.toString());
    }

    private void some(int which) {
        int a;
        int b;
        int c;
        switch (which) {
            case 0: case 1:
                a = near(7); b = near(7); c = near(60) ; int d = near(3);
                if (r.nextInt(3) == 0) {
                    c = 1 + r.nextInt(8);
                }
                if (m.s.fuses.size() >= 3 + run % 8 && r.nextInt(4) != 0) {
                    return;
                }
                same("fuse(" + a + ", " + b + ", " + c + ", " + d + ")", x.fuse(a, b, c, d), m.fuse(a, b, c, d));
                break;
            case 2: a = near(9); b = near(7);
                same("of(" + a + ", " + b + ")", x.of(a, b), m.of(a, b)); break;
            case 3: a = near(7); b = near(2);
                same("at(" + a + ", " + b + ")", x.at(a, b), m.at(a, b)); break;
            case 4: a = r.nextInt(8) == 0 ? near(1023) : 1 << r.nextInt(10) | 1 << r.nextInt(10);
                same("letter(" + a + ")", x.letter(a), m.letter(a)); break;
            case 5: a = near(2); b = r.nextInt(4) == 0 ? 990 + r.nextInt(13) : near(12);
                if (r.nextInt(3) != 0) {
                    return;
                }
                same("terms(" + a + ", " + b + ")", x.terms(a, b), m.terms(a, b)); break;
            case 6: if (r.nextInt(3) == 0) {
                    feedRow();
                    same("row()", x.row(), m.row());
                }
                same("ash()", x.ash(), m.ash); break;
            case 7: case 8:
                feedText(true);
                same("law()", x.law(), m.law());
                same("fault()", x.fault(), m.fault); break;
            case 9: case 10: case 11: case 12:
                feedText(false);
                same("orders()", x.orders(), m.orders());
                same("fault()", x.fault(), m.fault);
                same("stopped()", x.stopped(), m.stopped); break;
            case 13: case 14: a = near(Math.max(0, m.s.laws.size() - 1));
                a = r.nextInt(8) == 0 ? -1 : a;
                same("force(" + a + ")", x.force(a), m.force(a)); break;
            case 15: case 16: a = near(7);
                same("light(" + a + ")", x.light(a), m.wrap(m.doLight(a))); break;
            case 17: a = near(9);
                same("soak(" + a + ")", x.soak(a), m.wrap(m.doSoak(a))); break;
            case 18: a = near(9); b = near(9);
                same("swap(" + a + ", " + b + ")", x.swap(a, b), m.wrap(m.doSwap(a, b))); break;
            case 19: case 20:
                same("pass()", x.pass(), m.wrap(m.doPass())); break;
            case 21: case 22:
                same("undo()", x.undo(), m.undo()); break;
            default: asking(which); break;
        }
    }

    private void asking(int which) {
        int a;
        int b;
        int c;
        switch (which) {
            case 23: a = near(255); b = near(7);
                same("when(" + a + ", " + b + ")", x.when(a, b), m.when(a, b)); break;
            case 24: a = near(255); b = near(9);
                same("out(" + a + ", " + b + ")", x.out(a, b), m.out(a, b)); break;
            case 25: a = near(255); b = near(2);
                same("stands(" + a + ", " + b + ")", x.stands(a, b), m.stands(a, b)); break;
            case 26: a = near(4); b = near(1);
                same("best(" + a + ", " + b + ")", x.best(a, b), m.best(a, b)); break;
            case 27: a = near(1);
                same("even(" + a + ")", x.even(a), m.even(a)); break;
            case 28: a = near(1);
                same("centre(" + a + ")", x.centre(a), m.centre(a)); break;
            case 29: a = near(7); b = near(7); c = r.nextInt(6) - 2;
                same("way(" + a + ", " + b + ", " + c + ")", x.way(a, b, c), m.way(a, b, c)); break;
            case 30: a = near(7); b = near(7); c = near(1);
                same("cut(" + a + ", " + b + ", " + c + ")", x.cut(a, b, c), m.cut(a, b, c)); break;
            case 31: a = near(7); b = near(1);
                same("exchanged(" + a + ", " + b + ")", x.exchanged(a, b), m.exchanged(a, b)); break;
            case 32: a = r.nextInt(3) == 0 ? near(400) : near(40); b = near(1);
                same("measured(" + a + ", " + b + ")", x.measured(a, b), m.measured(a, b)); break;
            case 33: a = near(7); b = r.nextInt(2) == 0 ? m.when(1 << r.nextInt(8), Math.floorMod(a, 8)) : near(999);
                same("seen(" + a + ", " + b + ")", x.seen(a, b), m.seen(a, b)); break;
            case 34: if (r.nextInt(2) == 0) {
                    same("forget()", x.forget(), m.forget());
                } break;
            case 35: same("was()", x.was(), m.was()); break;
            case 36: a = near(1);
                same("look(" + a + ")", x.look(a), m.look(a)); break;
            case 37: a = near(7); b = near(7);
                c = r.nextInt(2) == 0 ? m.when(1 << Math.floorMod(a, 8), Math.floorMod(b, 8)) : near(60);
                same("wet(" + a + ", " + b + ", " + c + ")", x.wet(a, b, c), m.wet(a, b, c)); break;
            case 38: a = near(20); b = near(99);
                same("few(" + a + ", " + b + ")", x.few(a, b), m.few(a, b)); break;
            case 39: a = near(6) - 1; b = near(7);
                same("compare(" + a + ", " + b + ")", x.compare(a, b), m.compare(a, b)); break;
            case 40: a = r.nextInt(12) == 0 ? near(1000000) : r.nextInt(1000001); b = near(60);
                same("evenings(" + a + ", " + b + ")", x.evenings(a, b), m.evenings(a, b)); break;
            case 41: a = near(9); b = near(2);
                same("drawn(" + a + ", " + b + ")", x.drawn(a, b), m.drawn(a, b)); break;
            case 42: a = near(1);
                same("image(" + a + ")", x.image(a), m.image(a)); break;
            case 43: a = near(1);
                if (r.nextInt(3) == 0) {
                    same("back(" + a + ")", x.back(a), m.back(a));
                } break;
            default: a = near(17);
                same("count(" + a + ")", x.count(a), m.count(a));
                same("status()", x.status(), m.status); break;
        }
    }

    private boolean holds() {
        for (int i = 0; i < 2000 && used < CALLS && !wrong; i++) {
            some(i < 12 ? 0 : r.nextInt(46));
        }
        for (int what = -1; what < 19 && !wrong; what++) {
            same("count(" + what + ")", x.count(what), m.count(what));
        }
        return !wrong;
    }

    public static void main(String[] args) {
        int bad = 0;
        for (int run = 0; run < RUNS && bad < 5; run++) {
            bad += new ModelTest(run).holds() ? 0 : 1;
        }
        System.out.println(bad == 0 ? "all answers are as the model's" : bad + " runs are not as the model's");
        if (bad != 0) {
            System.exit(1);
        }
    }
}
