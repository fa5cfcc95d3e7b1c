import java.util.ArrayList;
import java.util.Arrays;
import java.util.HashMap;
import java.util.List;
import java.util.Map;
import java.util.Random;

/**
 * Long runs of random calls, each answer against a second program that follows the document's words in the plainest way:
 * every row of steps is tried, every minute is tried, nothing is kept from one call to the next.
 */
public final class OracleTest {
    private static final int BAD = -1000000001, NO = -1000000002, FULL = -1000000003, NONE = -1000000005;
    private static final int NOTHING = -1000000011, KIND = -1000000012, INDEX = -1000000013, SIZE = -1000000014;
    private static final String[] OPS = {
        "stop", "walk", "train", "told", "as", "turns", "set", "chances", "hangs", "day",
        "makes", "never", "mends", "add", "clear", "judge", "plan",
        "aim", "mean", "taken", "sure", "cheap", "latest",
        "feed", "trim", "text", "textTold", "why",
        "guest", "part", "gather", "ride", "seed",
        "sheet", "mark", "pour", "reads", "copy", "lay", "ask", "item", "rest",
        "tell", "check", "keep", "back", "count"};

    public static void main(String[] args) {
        int runs = args.length > 0 ? Integer.parseInt(args[0]) : 1500;
        int first = args.length > 1 ? Integer.parseInt(args[1]) : 1;
        long calls = 0;
        int wrong = 0;
        Map<String, Map<Long, Integer>> seen = new HashMap<>();
        for (int run = first; run < first + runs && wrong < 5; run++) {
            Run r = new Run(run);
            while (r.calls < 512 && r.fault == null) r.step(seen);
            calls += r.calls;
            if (r.fault != null) {
                wrong++;
                System.out.println("run " + run + ":\n" + r.log + r.fault);
            }
        }
        wrong += unseen(seen, runs);
        System.out.println(wrong == 0 ? calls + " calls are as the second program's" : wrong + " runs are not as due");
        if (wrong != 0) System.exit(1);
    }

    /** The runs are worth something only if every way to answer has come up in them. */
    private static int unseen(Map<String, Map<Long, Integer>> seen, int runs) {
        if (runs < 500) return 0;
        String[] want = {
            "stop BAD FULL", "walk BAD", "train BAD FULL", "told BAD NONE", "as BAD KIND", "turns BAD", "set BAD", "chances BAD",
            "hangs BAD NONE", "day BAD", "makes BAD NO", "never BAD NONE", "mends BAD NO NONE", "add BAD FULL", "judge NONE",
            "plan BAD NO", "aim BAD", "mean BAD", "taken BAD NONE", "sure BAD", "cheap BAD NONE", "latest BAD NONE", "feed FULL",
            "trim BAD", "text FULL", "textTold BAD", "why BAD NONE", "guest BAD FULL", "gather BAD NONE", "ride BAD",
            "sheet BAD SIZE", "mark BAD NOTHING INDEX KIND", "pour BAD NOTHING INDEX KIND", "reads BAD NOTHING NONE",
            "copy BAD NOTHING KIND INDEX", "lay BAD NOTHING", "ask BAD NOTHING KIND", "item BAD NOTHING KIND INDEX",
            "rest BAD NOTHING KIND NO", "tell FULL", "check BAD NO", "back NO", "count BAD"};
        int missing = 0;
        for (String row : want) {
            String[] words = row.split(" ");
            Map<Long, Integer> answers = seen.getOrDefault(words[0], Map.of());
            if (answers.size() < 2) missing++;
            for (int i = 1; i < words.length; i++) {
                if (!answers.containsKey((long) code(words[i]))) {
                    missing++;
                    System.out.println("never came up: " + words[0] + " " + words[i]);
                }
            }
        }
        if (!seen.getOrDefault("check", Map.of()).containsKey(0L)) missing++;
        return missing;
    }

    private static int code(String word) {
        switch (word) {
            case "BAD": return BAD;
            case "NO": return NO;
            case "FULL": return FULL;
            case "NONE": return NONE;
            case "NOTHING": return NOTHING;
            case "KIND": return KIND;
            case "INDEX": return INDEX;
            default: return SIZE;
        }
    }

    private static final class Run {
        private final Random random;
        private final CreweChange real = new CreweChange();
        private final Oracle oracle = new Oracle();
        private final StringBuilder log = new StringBuilder();
        private final int spread;
        private final int trainsWanted;
        private final boolean talks;
        private int calls;
        private String fault;

        Run(int seed) {
            random = new Random(seed * 7919L + 17);
            spread = new int[] {20, 60, 200, 1400}[random.nextInt(4)];
            trainsWanted = 2 + random.nextInt(11);
            talks = one(6);
        }

        private int upTo(int n) { return random.nextInt(n + 1); }
        private boolean one(int of) { return random.nextInt(of) == 0; }
        private int odd() {
            int[] odd = {-1, -2, 6, 7, 12, 13, 24, 25, 99, 100, 101, 599, 601, 999, 1000, 1440, 2880, 3000, 10001, NONE, BAD,
                Integer.MAX_VALUE, Integer.MIN_VALUE, 65536, 32768, -32769};
            return odd[random.nextInt(odd.length)];
        }
        private int some(int n) { return one(25) ? odd() : one(12) ? n : random.nextInt(Math.max(1, n)); }
        private int aStop() { return some(oracle.w.walks.size()); }
        private int aTrain() { return some(oracle.w.trains.size()); }
        private int aMinute() { return one(30) ? odd() : one(10) ? upTo(2879) : Math.min(2879, 580 + upTo(spread + 40)); }
        private int aLeave() { return one(30) ? odd() : one(30) ? 1439 : one(10) ? upTo(1439) : Math.min(1439, 600 + upTo(spread)); }
        private int aTakes() { return one(30) ? odd() : one(8) ? 1 + upTo(599) : 1 + upTo(12); }

        void call(Map<String, Map<Long, Integer>> seen, String op, int... a) {
            if (calls >= 512 || fault != null) return;
            calls++;
            int[] five = Arrays.copyOf(a, 5);
            long want = oracle.act(op, five);
            long got;
            try {
                got = onReal(real, op, five);
            } catch (RuntimeException e) {
                fault = op + Arrays.toString(a) + " threw " + e;
                return;
            }
            seen.computeIfAbsent(op, k -> new HashMap<>()).merge(got, 1, Integer::sum);
            log.append(op).append(Arrays.toString(a)).append(" -> ").append(got).append('\n');
            if (got != want) fault = "due is " + want;
        }

        void step(Map<String, Map<Long, Integer>> seen) {
            if (calls < 40 && (oracle.w.walks.size() < 3 || one(25))) { call(seen, "stop", one(20) ? odd() : upTo(one(3) ? 99 : 6)); return; }
            if (oracle.w.trains.size() < trainsWanted && one(2)) { aNewTrain(seen); return; }
            if (talks && one(4)) { someText(seen); return; }
            String op = OPS[random.nextInt(OPS.length)];
            switch (op) {
                case "stop": if (one(12)) call(seen, op, one(5) ? odd() : upTo(12)); return;
                case "train": if (one(4)) aNewTrain(seen); return;
                case "told": call(seen, op, aTrain(), some(18)); return;
                case "as": case "turns": call(seen, op, aTrain(), some(6)); return;
                case "set": { int what = some(3); call(seen, op, aTrain(), what, what == 0 ? upTo(1000) : what == 1 ? aLeave() : aTakes()); return; }
                case "chances": someChances(seen); return;
                case "hangs": call(seen, op, aTrain(), one(3) ? NONE : aTrain()); return;
                case "day": call(seen, op, one(10) ? odd() : upTo(999)); return;
                case "makes": call(seen, op, aTrain(), aTrain()); return;
                case "mends": call(seen, op, aTrain(), aTrain(), one(10) ? odd() : one(3) ? 1 : one(2) ? 10000 : 1 + upTo(9999)); return;
                case "add": extendPlan(seen); return;
                case "clear": if (one(2)) call(seen, op); return;
                case "judge": case "text": call(seen, op); return;
                case "keep": if (one(4)) call(seen, op); return;
                case "back": if (one(6)) call(seen, op); return;
                case "part": if (one(4)) call(seen, op); return;
                case "plan": case "never": case "gather": call(seen, op, some(2)); return;
                case "aim": { int what = some(2); call(seen, op, what, what == 0 ? aStop() : one(8) ? odd() : one(2) ? upTo(2999) : 600 + upTo(spread + 60)); return; }
                case "mean": case "taken": case "sure": case "cheap": case "ride": call(seen, op, aStop(), aMinute()); return;
                case "guest": call(seen, op, aStop(), one(8) ? odd() : Math.min(1439, 580 + upTo(spread + 40))); return;
                case "latest": call(seen, op, aStop(), one(8) ? odd() : one(3) ? 10000 : one(3) ? 1 : upTo(10000)); return;
                case "feed": someText(seen); return;
                case "trim": if (one(4)) call(seen, op, one(5) ? odd() : upTo(97)); return;
                case "textTold": call(seen, op, some(Math.max(1, oracle.w.texts.size())), some(2)); return;
                case "why": call(seen, op, some(3)); return;
                case "seed": call(seen, op, random.nextInt()); return;
                case "tell": if (one(3)) someRides(seen); else call(seen, op, odd()); return;
                case "check": call(seen, op, one(8) ? odd() : 1 + upTo(30)); return;
                case "count": call(seen, op, some(11)); return;
                default: onSheets(seen, op);
            }
        }

        private void aNewTrain(Map<String, Map<Long, Integer>> seen) {
            call(seen, "train", some(6), one(25) ? odd() : 10 * aStop() + aStop(), aLeave(), aTakes());
            if (!oracle.w.trains.isEmpty() && one(2)) someChances(seen);
        }

        private void someChances(Map<String, Map<Long, Integer>> seen) {
            int train = one(15) ? odd() : oracle.w.trains.isEmpty() ? 0 : random.nextInt(oracle.w.trains.size());
            if (one(12)) { call(seen, "chances", train, one(2) ? odd() : 50, one(2) ? Integer.MAX_VALUE : 50, 1); return; }
            int a = upTo(100), b = one(3) ? 0 : upTo(100 - a), c = one(3) ? 0 : upTo(100 - a - b);
            if (one(2)) { int x = a; a = c; c = x; }
            call(seen, "chances", train, a, b, c);
        }

        private void extendPlan(Map<String, Map<Long, Integer>> seen) {
            List<Integer> plan = oracle.w.plan;
            if (!plan.isEmpty() && !one(5)) {
                int to = oracle.w.trains.get(plan.get(plan.size() - 1))[2];
                List<Integer> fit = new ArrayList<>();
                for (int i = 0; i < oracle.w.trains.size(); i++) if (oracle.w.trains.get(i)[1] == to) fit.add(i);
                if (!fit.isEmpty()) { call(seen, "add", fit.get(random.nextInt(fit.size()))); call(seen, "plan", upTo(1)); return; }
            }
            call(seen, "add", aTrain());
        }

        private void someText(Map<String, Map<Long, Integer>> seen) {
            if (one(6)) {
                for (int i = one(8) ? 9 : 1; i > 0; i--) call(seen, "feed", random.nextInt(), random.nextInt(), random.nextInt());
                return;
            }
            if (!oracle.tape.isEmpty()) call(seen, "trim", 0);
            StringBuilder b = new StringBuilder();
            if (one(3)) b.append(' ');
            int key = random.nextInt(3);
            b.append(new String[] {"waits", "tide", "walk"}[key]).append(one(20) ? "" : " ");
            expression(b, new String[] {"knd", "nd", "swd"}[key], one(6) ? 7 : 3);
            if (one(10)) { int n = 6 + upTo(4); b.append("+").append((one(2) ? "!" : "(").repeat(n)).append("d").append(")".repeat(upTo(n))); }
            if (one(4)) spoil(b);
            if (b.length() > 96) b.setLength(96);
            int size = b.length();
            while (b.length() % 12 != 0) b.append(one(9) ? "x" : " ");
            for (int i = 0; i < b.length(); i += 12) call(seen, "feed", four(b, i), four(b, i + 4), four(b, i + 8));
            call(seen, "trim", size);
            if (!one(20)) call(seen, "text");
        }

        private static int four(CharSequence b, int i) {
            return b.charAt(i) << 24 | b.charAt(i + 1) << 16 | b.charAt(i + 2) << 8 | b.charAt(i + 3);
        }

        private void spoil(StringBuilder b) {
            String signs = "()!|&<=>+-*/ ks9wnd0A\t\u00e9{`:";
            int at = random.nextInt(b.length());
            char sign = signs.charAt(random.nextInt(signs.length()));
            if (one(3)) b.deleteCharAt(at);
            else if (one(2)) b.setCharAt(at, sign);
            else b.insert(at, sign);
        }

        private void expression(StringBuilder b, String names, int depth) {
            int pieces = 1 + random.nextInt(4);
            boolean compared = false;
            for (int i = 0; i < pieces; i++) {
                if (i > 0) {
                    String signs = compared ? "+-*/&|" : "+-*/&|<=>";
                    char sign = signs.charAt(random.nextInt(signs.length()));
                    compared = (compared && sign != '&' && sign != '|') || "<=>".indexOf(sign) >= 0;
                    b.append(one(6) ? " " : "").append(sign).append(one(6) ? " " : "");
                }
                while (one(6)) b.append('!');
                if (depth > 0 && one(4)) { b.append('('); expression(b, names, depth - 1); b.append(')'); }
                else if (one(2)) b.append(names.charAt(random.nextInt(names.length())));
                else b.append(one(9) ? upTo(12000) : upTo(30));
            }
        }

        private void someRides(Map<String, Map<Long, Integer>> seen) {
            if (oracle.kept == null || oracle.kept.guests.isEmpty() || one(10)) { call(seen, "check", 1 + upTo(29)); return; }
            int n = one(4) ? 30 : 1 + upTo(8);
            int[] told = oracle.ridesTold(n);
            if (oracle.waiting.size() > 0) call(seen, "check", odd());
            int spoiled = one(2) ? random.nextInt(told.length) : -1;
            int tells = one(4) ? random.nextInt(told.length + 1) : told.length;
            for (int i = 0; i < tells; i++) call(seen, "tell", i == spoiled ? told[i] + 1 : told[i]);
            if (one(5)) call(seen, "tell", 1);
            call(seen, "check", n);
        }

        private void onSheets(Map<String, Map<Long, Integer>> seen, String op) {
            int sheet = some(4);
            switch (op) {
                case "sheet": call(seen, op, sheet, one(8) ? -1 : some(2), one(6) ? odd() : one(2) ? upTo(6) : upTo(24)); return;
                case "mark": case "item": {
                    int[] row = sheet >= 0 && sheet < 4 ? oracle.sheets[sheet] : null;
                    int place = row == null ? 0 : some(Math.min(row.length - 1, 6));
                    if (op.equals("item")) { call(seen, op, some(5), one(3) ? place : some(6)); return; }
                    int v = one(6) ? odd() : one(4) ? NONE : one(2) ? upTo(60) : 600 + upTo(60);
                    if (one(2) && place >= 0 && place < 4 && !oracle.w.trains.isEmpty()) v = oracle.there(oracle.w, random.nextInt(oracle.w.trains.size()), place);
                    call(seen, op, sheet, place, v);
                    return;
                }
                case "pour": case "reads": call(seen, op, sheet, aTrain()); return;
                case "copy": {
                    int size = sheet >= 0 && sheet < 4 && oracle.sheets[sheet] != null ? oracle.sheets[sheet].length - 1 : 0;
                    call(seen, op, sheet, one(12) ? odd() : upTo(size), some(4), one(12) ? odd() : upTo(size), one(12) ? odd() : upTo(Math.max(0, size / 2)));
                    return;
                }
                case "lay": { int thing = some(4); call(seen, op, some(5), thing, thing == 1 ? aTrain() : thing == 2 ? sheet : odd()); return; }
                case "ask": call(seen, op, some(5), some(6)); return;
                case "rest": call(seen, op, some(5), one(5) ? 0 : one(3) ? -1 : odd()); return;
                case "walk": call(seen, op, aStop()); return;
                default: throw new IllegalStateException(op);
            }
        }
    }

    private static long onReal(CreweChange x, String op, int[] a) {
        switch (op) {
            case "stop": return x.stop(a[0]);
            case "walk": return x.walk(a[0]);
            case "train": return x.train(a[0], a[1], a[2], a[3]);
            case "told": return x.told(a[0], a[1]);
            case "as": return x.as(a[0], a[1]);
            case "turns": return x.turns(a[0], a[1]);
            case "set": return x.set(a[0], a[1], a[2]);
            case "chances": return x.chances(a[0], a[1], a[2], a[3]);
            case "hangs": return x.hangs(a[0], a[1]);
            case "day": return x.day(a[0]);
            case "makes": return x.makes(a[0], a[1]);
            case "never": return x.never(a[0]);
            case "mends": return x.mends(a[0], a[1], a[2]);
            case "add": return x.add(a[0]);
            case "clear": return x.clear();
            case "judge": return x.judge();
            case "plan": return x.plan(a[0]);
            case "aim": return x.aim(a[0], a[1]);
            case "mean": return x.mean(a[0], a[1]);
            case "taken": return x.taken(a[0], a[1]);
            case "sure": return x.sure(a[0], a[1]);
            case "cheap": return x.cheap(a[0], a[1]);
            case "latest": return x.latest(a[0], a[1]);
            case "feed": return x.feed(a[0], a[1], a[2]);
            case "trim": return x.trim(a[0]);
            case "text": return x.text();
            case "textTold": return x.textTold(a[0], a[1]);
            case "why": return x.why(a[0]);
            case "guest": return x.guest(a[0], a[1]);
            case "part": return x.part();
            case "gather": return x.gather(a[0]);
            case "ride": return x.ride(a[0], a[1]);
            case "seed": return x.seed(a[0]);
            case "sheet": return x.sheet(a[0], a[1], a[2]);
            case "mark": return x.mark(a[0], a[1], a[2]);
            case "pour": return x.pour(a[0], a[1]);
            case "reads": return x.reads(a[0], a[1]);
            case "copy": return x.copy(a[0], a[1], a[2], a[3], a[4]);
            case "lay": return x.lay(a[0], a[1], a[2]);
            case "ask": return x.ask(a[0], a[1]);
            case "item": return x.item(a[0], a[1]);
            case "rest": return x.rest(a[0], a[1]);
            case "tell": return x.tell(a[0]);
            case "check": return x.check(a[0]);
            case "keep": return x.keep();
            case "back": return x.back();
            default: return x.count(a[0]);
        }
    }

    /** What an image keeps. A train: kind, from, to, leave, takes, price, host, chances of steps 0 to 3. */
    private static final class World {
        List<Integer> walks = new ArrayList<>();
        List<int[]> trains = new ArrayList<>();
        List<String> texts = new ArrayList<>();
        List<Integer> plan = new ArrayList<>();
        List<int[]> guests = new ArrayList<>();
        int goal = 0, noon = 720, day = 0, z = 1;

        World copied() {
            World o = new World();
            o.walks.addAll(walks);
            for (int[] t : trains) o.trains.add(t.clone());
            o.texts.addAll(texts);
            o.plan.addAll(plan);
            for (int[] g : guests) o.guests.add(g.clone());
            o.goal = goal; o.noon = noon; o.day = day; o.z = z;
            return o;
        }
    }

    private static final class Oracle {
        World w = new World();
        World kept;
        StringBuilder tape = new StringBuilder();
        List<Integer> waiting = new ArrayList<>();
        /** Place 0 is the sort; null: missing. */
        int[][] sheets = new int[4][];
        Object[] slots = new Object[5];
        final Map<Long, Integer> memo = new HashMap<>();

        private static boolean in(int v, int a, int b) { return a <= v && v <= b; }
        private boolean stop(int s) { return in(s, 0, w.walks.size() - 1); }
        private boolean train(int t) { return in(t, 0, w.trains.size() - 1); }

        long act(String op, int[] a) {
            memo.clear();
            switch (op) {
                case "stop":
                    if (!in(a[0], 0, 99)) return BAD;
                    if (w.walks.size() == 6) return FULL;
                    w.walks.add(a[0]);
                    return w.walks.size() - 1;
                case "walk": return stop(a[0]) ? walk(w, a[0]) : BAD;
                case "train": return newTrain(a);
                case "told": return train(a[0]) ? told(a[0], a[1]) : BAD;
                case "as": return !train(a[0]) || !in(a[1], 0, 5) ? BAD : under(w.trains.get(a[0])[0], a[1]) ? w.trains.get(a[0])[3] : KIND;
                case "turns": return !train(a[0]) || !in(a[1], 0, 5) ? BAD : swap(w.trains.get(a[0]), 0, a[1]);
                case "set":
                    if (!train(a[0]) || !in(a[1], 0, 2)) return BAD;
                    if (a[1] == 0) return in(a[2], 0, 999) ? swap(w.trains.get(a[0]), 5, a[2]) : BAD;
                    if (a[1] == 1) return in(a[2], 0, 1439) ? swap(w.trains.get(a[0]), 3, a[2]) : BAD;
                    return in(a[2], 1, 600) ? swap(w.trains.get(a[0]), 4, a[2]) : BAD;
                case "chances": return train(a[0]) ? chances(a[0], a[1], a[2], a[3]) : BAD;
                case "hangs": return !train(a[0]) || (a[1] != NONE && !in(a[1], 0, a[0] - 1)) ? BAD : swap(w.trains.get(a[0]), 6, a[1]);
                case "day": { int was = w.day; if (!in(a[0], 0, 999)) return BAD; w.day = a[0]; return was; }
                default: return actOnPlans(op, a);
            }
        }

        private static int swap(int[] row, int i, int v) { int was = row[i]; row[i] = v; return was; }

        private int newTrain(int[] a) {
            int from = Math.floorDiv(a[1], 10), to = Math.floorMod(a[1], 10);
            if (!in(a[0], 0, 5) || !stop(from) || !stop(to) || from == to || !in(a[2], 0, 1439) || !in(a[3], 1, 600)) return BAD;
            if (w.trains.size() == 12) return FULL;
            w.trains.add(new int[] {a[0], from, to, a[2], a[3], 0, NONE, 100, 0, 0, 0});
            return w.trains.size() - 1;
        }

        private int told(int t, int what) {
            if (!in(what, 0, 17)) return BAD;
            if (what <= 6) return w.trains.get(t)[what];
            if (what == 7) return goes(w, t);
            if (what == 8) return waits(w, t);
            if (what == 9) return fare(w.trains.get(t));
            return what <= 13 ? w.trains.get(t)[7 + what - 10] : there(w, t, what - 14);
        }

        private int chances(int t, long one, long two, long three) {
            if (one < 0 || two < 0 || three < 0 || one + two + three > 100) return BAD;
            int[] row = w.trains.get(t);
            row[8] = (int) one; row[9] = (int) two; row[10] = (int) three;
            row[7] = 100 - row[8] - row[9] - row[10];
            return row[7];
        }

        // ---- kinds

        private static boolean under(int kind, int other) {
            if (kind == other || other == 0) return true;
            return (kind == 3 && other == 1) || (kind == 4 && other == 2);
        }

        private static int fare(int[] t) {
            if (t[0] == 1 || t[0] == 3) return t[5] / 2;
            if (t[0] == 2) return t[5] + 10;
            return t[0] == 4 ? (t[5] + 10) * 2 : t[5];
        }

        private int walk(World v, int s) {
            int told = v.walks.get(s);
            return hold(law(v, "walk", "swd", told, s, told, v.day), 99);
        }

        private int goes(World v, int t) {
            int[] row = v.trains.get(t);
            return row[0] == 4 ? row[3] + hold(law(v, "tide", "nd", 0, t, v.day), 120) : row[3];
        }

        private int waits(World v, int t) {
            int kind = v.trains.get(t)[0];
            int plain = kind == 2 ? 5 : kind == 4 || kind == 5 ? 10 : 0;
            return hold(law(v, "waits", "knd", plain, kind, t, v.day), 30);
        }

        private static int hold(int v, int most) { return v < 0 ? 0 : v > most ? most : v; }

        private int delay(World v, int t, int s) {
            int[] row = v.trains.get(t);
            switch (row[0]) {
                case 1: return 5 * s + 2 * s;
                case 2: case 4: return 0;
                case 3: return 5 * s + 2 * s + (row[6] == NONE ? 0 : delay(v, row[6], s) / 2);
                default: return 5 * s;
            }
        }

        private int later(World v, int t, int s) { return goes(v, t) + delay(v, t, s); }
        int there(World v, int t, int s) { return later(v, t, s) + v.trains.get(t)[4]; }
        private static int chance(World v, int t, int s) { return v.trains.get(t)[7 + s]; }

        private static int law(World v, String key, String names, int without, int... values) {
            for (int i = v.texts.size() - 1; i >= 0; i--) {
                String text = v.texts.get(i).trim();
                if (text.startsWith(key)) return new Sum(text.substring(key.length()), names, values).worth();
            }
            return without;
        }

        // ---- changes, plans

        private long actOnPlans(String op, int[] a) {
            switch (op) {
                case "makes": return !train(a[0]) || !train(a[1]) || a[0] == a[1] ? BAD : joins(a[0], a[1]) ? makes(a[0], a[1], 0) : NO;
                case "never": {
                    if (!in(a[0], 0, 1)) return BAD;
                    List<Integer> all = new ArrayList<>();
                    for (int i = 0; i < w.trains.size(); i++)
                        for (int j = 0; j < w.trains.size(); j++)
                            if (i != j && joins(i, j) && makes(i, j, 0) == 0) all.add(100 * i + j);
                    return a[0] == 0 ? all.size() : all.isEmpty() ? NONE : all.get(0);
                }
                case "mends":
                    if (!train(a[0]) || !train(a[1]) || a[0] == a[1] || !in(a[2], 1, 10000)) return BAD;
                    if (!joins(a[0], a[1])) return NO;
                    for (int more = 0; more <= 999; more++) if (makes(a[0], a[1], more) >= a[2]) return more;
                    return NONE;
                case "add":
                    if (!train(a[0])) return BAD;
                    if (w.plan.size() == 6) return FULL;
                    w.plan.add(a[0]);
                    return w.plan.size();
                case "clear": { int had = w.plan.size(); w.plan.clear(); return had; }
                case "judge": return broken();
                case "plan": return !in(a[0], 0, 1) ? BAD : broken() != NONE ? NO : w.plan.isEmpty() ? 1 - a[0] : plan(a[0]);
                default: return actOnGoal(op, a);
            }
        }

        private boolean joins(int a, int b) { return w.trains.get(a)[2] == w.trains.get(b)[1]; }

        private int makes(int a, int b, int more) {
            int all = 0, walk = walk(w, w.trains.get(a)[2]), waits = waits(w, b);
            for (int s = 0; s < 4; s++)
                for (int r = 0; r < 4; r++)
                    if (chance(w, a, s) * chance(w, b, r) > 0 && there(w, a, s) + walk <= later(w, b, r) + more + waits) all += chance(w, a, s) * chance(w, b, r);
            return all;
        }

        private int broken() {
            for (int i = 1; i < w.plan.size(); i++) if (!joins(w.plan.get(i - 1), w.plan.get(i))) return i;
            return NONE;
        }

        private long plan(int what) {
            long all = 0;
            int n = w.plan.size();
            int[] walks = new int[n], waits = new int[n];
            int[][] there = new int[n][4], later = new int[n][4];
            for (int i = 0; i < n; i++) {
                walks[i] = walk(w, w.trains.get(w.plan.get(i))[2]);
                waits[i] = waits(w, w.plan.get(i));
                for (int s = 0; s < 4; s++) { there[i][s] = there(w, w.plan.get(i), s); later[i][s] = later(w, w.plan.get(i), s); }
            }
            for (int row = 0; row < 1 << (2 * n); row++) {
                long product = 1;
                for (int i = 0; i < n; i++) {
                    int s = row >> (2 * i) & 3;
                    product *= chance(w, w.plan.get(i), s);
                    if (i > 0 && there[i - 1][row >> (2 * i - 2) & 3] + walks[i - 1] > later[i][s] + waits[i]) product = 0;
                }
                all += what == 0 ? product : product * there[n - 1][row >> (2 * n - 2) & 3];
            }
            return all;
        }

        // ---- what to do

        private boolean point(int[] a) { return stop(a[0]) && in(a[1], 0, 2879); }

        private long actOnGoal(String op, int[] a) {
            switch (op) {
                case "aim":
                    if (a[0] == 0 && stop(a[1])) { int was = w.goal; w.goal = a[1]; return was; }
                    if (a[0] == 1 && in(a[1], 0, 2999)) { int was = w.noon; w.noon = a[1]; return was; }
                    return BAD;
                case "mean": return point(a) ? worth(w, 0, a[0], a[1]) : BAD;
                case "taken": return point(a) ? taken(w, a[0], a[1]) : BAD;
                case "sure": return point(a) ? worth(w, 1, a[0], a[1]) : BAD;
                case "cheap": { if (!point(a)) return BAD; int v = worth(w, 2, a[0], a[1]); return v < 0 ? NONE : v; }
                case "latest":
                    if (!stop(a[0]) || !in(a[1], 0, 10000)) return BAD;
                    for (int t = 1469; t >= 0; t--) if (worth(w, 1, a[0], t) >= a[1]) return t;
                    return NONE;
                default: return actOnTexts(op, a);
            }
        }

        private int goesNow(World v, int t) { return memo.computeIfAbsent(-1L - t, k -> goes(v, t)); }
        private int waitsNow(World v, int t) { return memo.computeIfAbsent(-101L - t, k -> waits(v, t)); }
        private int walkNow(World v, int s) { return memo.computeIfAbsent(-201L - s, k -> walk(v, s)); }

        private boolean may(World v, int t, int s, int minute) {
            return s != v.goal && v.trains.get(t)[1] == s && goesNow(v, t) + waitsNow(v, t) >= minute;
        }

        private int arrives(World v, int t, int step, int minute) {
            int[] row = v.trains.get(t);
            int leaves = Math.max(goesNow(v, t) + delay(v, t, step), minute);
            return leaves + row[4] + (row[2] == v.goal ? 0 : walkNow(v, row[2]));
        }

        /** By sort 0 the mean, 1 the surest, 2 the cheapest (-1: it can't be). */
        private int worth(World v, int sort, int s, int minute) {
            if (s == v.goal) return sort == 0 ? 100 * minute : sort == 1 ? (minute <= v.noon ? 10000 : 0) : minute <= v.noon ? 0 : -1;
            long key = (sort * 10L + s) * 100000 + minute;
            Integer known = memo.get(key);
            if (known != null) return known;
            Integer best = null;
            for (int t = 0; t < v.trains.size(); t++) {
                if (!may(v, t, s, minute)) continue;
                int worth = behind(v, sort, t, minute);
                if (sort == 2 && worth < 0) continue;
                if (best == null || (sort == 1 ? worth > best : worth < best)) best = worth;
            }
            int answer = best != null ? best : sort == 0 ? 288000 : sort == 1 ? 0 : -1;
            memo.put(key, answer);
            return answer;
        }

        private int behind(World v, int sort, int t, int minute) {
            int sum = 0, most = 0;
            for (int step = 0; step < 4; step++) {
                if (chance(v, t, step) == 0) continue;
                int worth = worth(v, sort, v.trains.get(t)[2], arrives(v, t, step, minute));
                if (sort == 2 && worth < 0) return -1;
                sum += worth * chance(v, t, step);
                most = Math.max(most, worth);
            }
            return sort == 2 ? fare(v.trains.get(t)) + most : sum / 100;
        }

        private int taken(World v, int s, int minute) {
            for (int t = 0; t < v.trains.size(); t++)
                if (may(v, t, s, minute) && behind(v, 0, t, minute) == worth(v, 0, s, minute)) return t;
            return NONE;
        }

        // ---- texts

        private long actOnTexts(String op, int[] a) {
            switch (op) {
                case "feed":
                    if (tape.length() + 12 > 96) return FULL;
                    for (int i = 0; i < 12; i++) tape.append((char) (a[i / 4] >>> (24 - i % 4 * 8) & 255));
                    return tape.length();
                case "trim":
                    if (!in(a[0], 0, tape.length())) return BAD;
                    tape.setLength(a[0]);
                    return a[0];
                case "text": {
                    String read = tape.toString();
                    tape.setLength(0);
                    int fault = Machine.fault(read);
                    if (fault >= 0) return -100 - fault;
                    if (w.texts.size() == 14) return FULL;
                    w.texts.add(read);
                    return w.texts.size() - 1;
                }
                case "textTold":
                    if (!in(a[0], 0, w.texts.size() - 1) || !in(a[1], 0, 1)) return BAD;
                    return a[1] == 0 ? keyOf(w.texts.get(a[0])) : leaves(w.texts.get(a[0]));
                case "why":
                    if (!in(a[0], 0, 2)) return BAD;
                    for (int i = w.texts.size() - 1; i >= 0; i--) if (keyOf(w.texts.get(i)) == a[0]) return i;
                    return NONE;
                default: return actOnGuests(op, a);
            }
        }

        private static int keyOf(String text) {
            String t = text.trim();
            return t.startsWith("waits") ? 0 : t.startsWith("tide") ? 1 : 2;
        }

        private static int leaves(String text) {
            int n = -1;
            for (String word : text.split("[^a-z0-9]+")) if (!word.isEmpty()) n++;
            return n;
        }

        // ---- guests, rides

        private long actOnGuests(String op, int[] a) {
            switch (op) {
                case "guest":
                    if (!stop(a[0]) || !in(a[1], 0, 1439)) return BAD;
                    if (w.guests.size() == 10) return FULL;
                    w.guests.add(new int[] {a[0], a[1]});
                    return w.guests.size() - 1;
                case "part": { int were = w.guests.size(); w.guests.clear(); return were; }
                case "gather": {
                    if (!in(a[0], 0, 1)) return BAD;
                    int who = NONE, most = -1;
                    for (int i = 0; i < w.guests.size(); i++) {
                        int m = worth(w, 0, w.guests.get(i)[0], w.guests.get(i)[1]);
                        if (m > most) { most = m; who = i; }
                    }
                    return who == NONE ? NONE : a[0] == 0 ? most : who;
                }
                case "ride": return point(a) ? ride(w, a[0], a[1])[0] : BAD;
                case "seed": { int was = w.z; w.z = a[0]; return was; }
                default: return actOnSheets(op, a);
            }
        }

        private int[] ride(World v, int s, int minute) {
            int many = 0;
            while (s != v.goal) {
                int t = taken(v, s, minute);
                if (t == NONE) return new int[] {2880, many};
                v.z = v.z * 1103515245 + 12345;
                int rest = (v.z >>> 8) % 100, step = 0, sum = chance(v, t, 0);
                while (sum <= rest) sum += chance(v, t, ++step);
                minute = arrives(v, t, step, minute);
                s = v.trains.get(t)[2];
                many++;
            }
            return new int[] {minute, many};
        }

        int[] ridesTold(int n) {
            memo.clear();
            World v = kept.copied();
            int[] row = new int[2 * n];
            for (int i = 0; i < n; i++) {
                int[] g = v.guests.get(i % v.guests.size());
                int[] told = ride(v, g[0], g[1]);
                row[2 * i] = told[0];
                row[2 * i + 1] = told[1];
            }
            memo.clear();
            return row;
        }

        // ---- sheets, slots, rows, images

        private static boolean sheetNumber(int s) { return in(s, 0, 3); }

        private long actOnSheets(String op, int[] a) {
            switch (op) {
                case "sheet":
                    if (!sheetNumber(a[0]) || !in(a[1], -1, 1) || (a[1] != -1 && a[2] > 24)) return BAD;
                    if (a[1] == -1) { sheets[a[0]] = null; return 0; }
                    if (a[2] < 0) return SIZE;
                    sheets[a[0]] = new int[a[2] + 1];
                    sheets[a[0]][0] = a[1];
                    return a[2];
                case "mark": {
                    if (!sheetNumber(a[0])) return BAD;
                    int[] row = sheets[a[0]];
                    if (row == null) return NOTHING;
                    if (!in(a[1], 0, row.length - 2)) return INDEX;
                    if (row[0] == 0 && a[2] == NONE) return KIND;
                    if (row[0] == 1 && a[2] != NONE && !in(a[2], -99999, 99999)) return BAD;
                    row[a[1] + 1] = row[0] == 0 ? (short) a[2] : a[2];
                    return 1;
                }
                case "pour": {
                    if (!sheetNumber(a[0]) || !train(a[1])) return BAD;
                    int[] row = sheets[a[0]];
                    if (row == null) return NOTHING;
                    if (row.length < 4) return INDEX;
                    return row[1] == NONE || row[2] == NONE || row[3] == NONE ? KIND : chances(a[1], row[1], row[2], row[3]);
                }
                case "reads": {
                    if (!sheetNumber(a[0]) || !train(a[1])) return BAD;
                    int[] row = sheets[a[0]];
                    if (row == null) return NOTHING;
                    for (int i = 1; i < row.length; i++) if (row[i] != NONE && (i > 4 || row[i] != there(w, a[1], i - 1))) return i - 1;
                    return NONE;
                }
                case "copy": {
                    if (!sheetNumber(a[0]) || !sheetNumber(a[2])) return BAD;
                    int[] f = sheets[a[0]], t = sheets[a[2]];
                    if (f == null || t == null) return NOTHING;
                    if (f[0] != t[0]) return KIND;
                    int[] was = Arrays.copyOfRange(f, 1, f.length);
                    if (a[1] < 0 || a[3] < 0 || a[4] < 0 || (long) a[1] + a[4] > was.length || (long) a[3] + a[4] > t.length - 1) return INDEX;
                    for (int i = 0; i < a[4]; i++) t[1 + a[3] + i] = was[a[1] + i];
                    return a[4];
                }
                default: return actOnSlots(op, a);
            }
        }

        private long actOnSlots(String op, int[] a) {
            boolean slot = in(a[0], 0, 4);
            switch (op) {
                case "lay": {
                    if (!slot || !in(a[1], 0, 3) || (a[1] == 1 && !train(a[2])) || (a[1] == 2 && !sheetNumber(a[2]))) return BAD;
                    if (a[1] == 2 && sheets[a[2]] == null) return NOTHING;
                    int was = thing(slots[a[0]]);
                    slots[a[0]] = a[1] == 0 ? null : a[1] == 1 ? new long[] {w.trains.get(a[2])[0], fare(w.trains.get(a[2]))} : a[1] == 2 ? (Object) sheets[a[2]].clone() : (Object) a[2];
                    return was;
                }
                case "ask":
                    if (!slot || !in(a[1], 0, 5)) return BAD;
                    if (slots[a[0]] == null) return NOTHING;
                    return slots[a[0]] instanceof long[] t && under((int) t[0], a[1]) ? t[1] : KIND;
                case "item":
                    if (!slot) return BAD;
                    if (slots[a[0]] == null) return NOTHING;
                    if (!(slots[a[0]] instanceof int[] row)) return KIND;
                    if (!in(a[1], 0, row.length - 2)) return INDEX;
                    return row[a[1] + 1] == NONE ? KIND : row[a[1] + 1];
                case "rest":
                    if (!slot) return BAD;
                    if (slots[a[0]] == null) return NOTHING;
                    if (!(slots[a[0]] instanceof Integer k)) return KIND;
                    return a[1] == 0 ? NO : (long) k % a[1];
                default: return actOnRows(op, a);
            }
        }

        private static int thing(Object held) { return held == null ? 0 : held instanceof long[] ? 1 : held instanceof int[] ? 2 : 3; }

        private long actOnRows(String op, int[] a) {
            switch (op) {
                case "tell":
                    if (waiting.size() == 60) return FULL;
                    waiting.add(a[0]);
                    return waiting.size();
                case "check": {
                    List<Integer> told = waiting;
                    waiting = new ArrayList<>();
                    if (!in(a[0], 1, 30)) return BAD;
                    if (kept == null || kept.guests.isEmpty()) return NO;
                    int[] due = ridesTold(a[0]);
                    int right = 0;
                    while (right < due.length && right < told.size() && due[right] == told.get(right)) right++;
                    return right == due.length && right == told.size() ? 0 : 1 + right;
                }
                case "keep": kept = w.copied(); return w.trains.size();
                case "back":
                    if (kept == null) return NO;
                    w = kept.copied();
                    return w.trains.size();
                default: {
                    int[] all = {w.walks.size(), w.trains.size(), w.texts.size(), w.plan.size(), w.guests.size(), w.goal, w.noon, w.day, waiting.size(), tape.length(), w.z};
                    return in(a[0], 0, 10) ? all[a[0]] : BAD;
                }
            }
        }
    }

    /** Where no text goes on, by a machine with a stack, word by word (-1: it is a text). */
    private static final class Machine {
        static int fault(String s) {
            String names = null;
            boolean operand = true, compared = false;
            int open = 0, nots = 0, pending = 0;
            List<int[]> frames = new ArrayList<>();
            int i = 0, lastWordEnd = -1;
            while (true) {
                while (i < s.length() && s.charAt(i) == ' ') i++;
                if (i == s.length()) return names == null || operand || open > 0 ? i : -1;
                int start = i++;
                char c = s.charAt(start);
                boolean letter = c >= 'a' && c <= 'z', digit = c >= '0' && c <= '9';
                while (i < s.length() && ((letter && s.charAt(i) >= 'a' && s.charAt(i) <= 'z') || (digit && s.charAt(i) >= '0' && s.charAt(i) <= '9'))) i++;
                String word = s.substring(start, i);
                if ((letter || digit) && start == lastWordEnd) return start;
                if (letter || digit) lastWordEnd = i;
                if (names == null) {
                    names = Map.of("waits", "knd", "tide", "nd", "walk", "swd").get(word);
                    if (names == null) return start;
                } else if (operand) {
                    if (c == '!') {
                        if (nots == 8) return start;
                        nots++;
                        pending++;
                    } else if (c == '(') {
                        if (open == 8) return start;
                        open++;
                        frames.add(new int[] {pending, compared ? 1 : 0});
                        pending = 0;
                        compared = false;
                    } else if ((digit && word.length() <= 4) || (letter && word.length() == 1 && names.contains(word))) {
                        operand = false;
                        nots -= pending;
                        pending = 0;
                    } else return start;
                } else if (c == ')') {
                    if (open == 0) return start;
                    open--;
                    int[] frame = frames.remove(frames.size() - 1);
                    nots -= frame[0];
                    compared = frame[1] == 1;
                } else if ("<=>".indexOf(c) >= 0) {
                    if (compared) return start;
                    compared = true;
                    operand = true;
                } else if ("&|".indexOf(c) >= 0) {
                    compared = false;
                    operand = true;
                } else if ("+-*/".indexOf(c) >= 0) operand = true;
                else return start;
            }
        }
    }

    /** What an expression without faults is worth: the loosest sign outside brackets, the last of its level, parts it. */
    private static final class Sum {
        private final String s;
        private final String names;
        private final int[] values;

        Sum(String s, String names, int[] values) { this.s = s.replace(" ", ""); this.names = names; this.values = values; }

        int worth() { return part(0, s.length()); }

        private int part(int from, int to) {
            for (String level : new String[] {"|", "&", "<=>", "+-", "*/"}) {
                int depth = 0;
                for (int i = to - 1; i > from; i--) {
                    char c = s.charAt(i);
                    depth += c == ')' ? 1 : c == '(' ? -1 : 0;
                    if (depth == 0 && level.indexOf(c) >= 0) return join(c, part(from, i), part(i + 1, to));
                }
            }
            char c = s.charAt(from);
            if (c == '!') return part(from + 1, to) == 0 ? 1 : 0;
            if (c == '(') return part(from + 1, to - 1);
            return Character.isDigit(c) ? Integer.parseInt(s.substring(from, to)) : values[names.indexOf(c)];
        }

        private static int join(char c, int a, int b) {
            switch (c) {
                case '|': return a != 0 | b != 0 ? 1 : 0;
                case '&': return a != 0 & b != 0 ? 1 : 0;
                case '<': return a < b ? 1 : 0;
                case '=': return a == b ? 1 : 0;
                case '>': return a > b ? 1 : 0;
                case '+': return a + b;
                case '-': return a - b;
                case '*': return a * b;
                default: return b == 0 ? 0 : (int) ((long) a / b);
            }
        }
    }
}
