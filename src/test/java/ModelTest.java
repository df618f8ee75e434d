import java.util.Random;

/** Long runs of drawn calls, each answer compared with the plain model's. */
public final class ModelTest {
    private static final String[] KINDS = {"plain", "quick", "liar", "deaf", "mute"};
    private static final int[] EDGES = {-1, -2, -4, 6, 7, 9, 10, 16, 40, 41, Integer.MAX_VALUE, Integer.MIN_VALUE};
    private final Due due = new Due();
    private final Random random;
    private TailSpeaks x = new TailSpeaks();
    private NaiveModel m = new NaiveModel();
    private String run;

    private ModelTest(long seed) {
        random = new Random(seed);
    }

    public static void main(String[] args) {
        int runs = args.length > 0 ? Integer.parseInt(args[0]) : 150;
        long seed = args.length > 1 ? Long.parseLong(args[1]) : 1;
        ModelTest t = new ModelTest(seed);
        for (int i = 0; i < runs; i++) t.aRun(i);
        for (int i = 0; i < 20 * runs; i++) t.aFaultyText(i);
        for (int many = 1; many <= 3; many++) t.allRowsOf(many);
        t.due.end();
    }

    private int below(int n) {
        return random.nextInt(n);
    }

    /** Mostly from 0 to most, now and then just beyond, or far off. */
    private int near(int most) {
        int d = below(40);
        if (d == 0) return EDGES[below(EDGES.length)];
        if (d == 1) return -1;
        if (d == 2) return most + 1;
        return below(most + 1);
    }

    private String validText() {
        StringBuilder b = new StringBuilder();
        int people = below(8) == 0 ? below(7) : 3 + below(4);
        boolean allPlain = below(3) == 0;
        for (int p = 0; p < people; p++) {
            b.append("person ").append(KINDS[allPlain ? 0 : below(5)]).append(' ').append(below(10));
            for (int f = 0; f < 4; f++) if (below(3) == 0) b.append(' ').append(f);
            b.append(';');
        }
        StringBuilder[] rows = {new StringBuilder(), new StringBuilder()};
        int[] order = random.ints(people * 9L, 0, Math.max(1, people)).distinct().toArray();
        boolean oneRow = below(2) == 0;
        for (int p : order) {
            if (people > 0 && below(7) != 0) rows[oneRow ? 0 : below(2)].append(' ').append(p);
        }
        for (int r = 0; r < 2; r++) {
            if (rows[r].length() > 0) b.append("row ").append(r).append(rows[r]).append(below(2) == 0 ? " ;" : ";");
            if (below(10) == 0) b.append("ring ").append(r).append(';');
        }
        return b.toString();
    }

    private String spoilt(String text) {
        String[] parts = {";", " ", "7", "12", "123", "person ", "row ", "ring ", "0", "1", "plain", "mutes", "!", "A", "\t", "\u00e9", "5", "3;"};
        StringBuilder b = new StringBuilder(text);
        for (int i = 1 + below(3); i > 0; i--) {
            int at = below(b.length() + 1);
            int d = below(3);
            if (d > 0 && at < b.length()) b.deleteCharAt(at);
            if (d < 2) b.insert(at, parts[below(parts.length)]);
        }
        return b.length() > 320 ? b.substring(0, 320) : b.toString();
    }

    private void tellBoth(String text) {
        for (int i = 0; i < text.length(); i += 8) {
            long v = 0;
            for (int j = i; j < i + 8; j++) v = v << 8 | (j < text.length() ? text.charAt(j) & 255 : ' ');
            check("feed", x.feed(v), m.feed(v));
        }
        check("end", x.end(text.length()), m.end(text.length()));
        check("text of " + text, x.text(), m.text());
        check("fault of " + text, x.fault(), m.fault());
    }

    private void check(String call, int got, int want) {
        due.is(run + call, got, want);
    }

    private void aFaultyText(int i) {
        run = "text " + i + ": ";
        if (i % 50 == 0) {
            x = new TailSpeaks();
            m = new NaiveModel();
        }
        x.end(0);
        m.end(0);
        tellBoth(spoilt(validText()));
        checkAll();
    }

    private void aRun(int i) {
        run = "run " + i + ": ";
        x = new TailSpeaks();
        m = new NaiveModel();
        if (below(20) != 0) tellBoth(validText());
        int focus = below(4);
        for (int c = 0; c < 100; c++) {
            if (below(150) == 0) tellBoth(below(3) == 0 ? spoilt(validText()) : validText());
            else aCall(focus == 0 ? below(36) : focus == 1 ? below(19) : focus == 2 ? 8 + below(28) : 20 + below(16));
        }
        checkAll();
    }

    /** Each row of so many of each kind, with each who may know the fact: plans for each of them, by each cost. */
    private void allRowsOf(int many) {
        int rows = (int) Math.pow(5, many) << many;
        for (int row = 0; row < rows; row++) {
            int know = row & (1 << many) - 1, kinds = row >> many;
            StringBuilder people = new StringBuilder(), places = new StringBuilder("row 0");
            for (int p = 0; p < many; p++) {
                people.append("person ").append(KINDS[kinds % 5]).append(' ').append(below(10));
                people.append((know >> p & 1) != 0 ? " 2;" : ";");
                places.append(' ').append(p);
                kinds /= 5;
            }
            run = "all rows of " + many + ", " + people;
            x = new TailSpeaks();
            m = new NaiveModel();
            tellBoth(people.toString() + places + ";");
            for (int some = 1; some < 1 << many; some++) allPlans(some);
            check("common", x.common(0), m.common(0));
            for (int w = 0; w < 2; w++) check("latest", x.latest(0, 2, w), m.latest(0, 2, w));
            check("ring", x.ring(0), m.ring(0));
            for (int w = 0; w < 2; w++) check("steer", x.steer(0, 2, w), m.steer(0, 2, w));
        }
    }

    private void allPlans(int some) {
        for (int how = 0; how < 3; how++) {
            String call = "plan for " + some + " by " + how + ", ";
            for (int w = 0; w < 2; w++) check(call + w, x.plan(0, 2, some, how, w), m.plan(0, 2, some, how, w));
            int acts = Math.max(0, m.plan(0, 2, some, how, 1));
            for (int i = 0; i <= acts; i++) check(call + "act " + i, x.plan(0, 2, some, how, 10 + i), m.plan(0, 2, some, how, 10 + i));
        }
    }

    private void checkAll() {
        for (int w = 0; w < 6; w++) check("rule " + w, x.rule(w), m.rule(w));
        for (int w = 0; w < 7; w++) check("count " + w, x.count(w), m.count(w));
        for (int p = -1; p < 7; p++) {
            for (int w = -1; w < 6; w++) check("one " + p + " " + w, x.one(p, w), m.one(p, w));
        }
        for (int r = -1; r < 3; r++) {
            for (int p = -1; p < 7; p++) check("at " + r + " " + p, x.at(r, p), m.at(r, p));
        }
    }

    private int someOf(int r) {
        int all = 0, rows = r == 0 || r == 1 ? r : 0;
        for (int p : m.w.rows.get(rows)) all |= 1 << p;
        int d = below(20);
        return d == 0 ? below(64) : d == 1 ? -1 : d < 10 ? all : all & below(64);
    }

    private int drawnAct() {
        int d = below(30);
        return d == 0 ? 8 + below(2) : d == 1 ? random.nextInt() : d < 12 ? 10 + below(5) : d < 20 ? below(4) : 4 + below(4);
    }

    private void aCall(int which) {
        int r = near(1), f = near(3), p = near(Math.max(0, m.w.people.size() - 1));
        switch (which) {
            case 0: check("count", x.count(f), m.count(f)); break;
            case 1: case 2: check("say", x.say(r, f), m.say(r, f)); break;
            case 3: case 4: check("ask", x.ask(r, f), m.ask(r, f)); break;
            case 5: case 6: case 7: check("go", x.go(r, p), m.go(r, p)); break;
            case 8: check("change", x.change(r), m.change(r)); break;
            case 9: if (below(2) == 0) check("serve", x.serve(r), m.serve(r)); break;
            case 10: check("come", x.come(p, r), m.come(p, r)); break;
            case 11: check("split", x.split(p), m.split(p)); break;
            case 12: check("join", x.join(), m.join()); break;
            case 13: if (below(4) == 0) check("ring", x.ring(r), m.ring(r)); break;
            case 14: check("cut", x.cut(r, p), m.cut(r, p)); break;
            case 15: { int s = random.nextInt(); check("lot " + s, x.lot(r, s), m.lot(r, s)); break; }
            case 16: { boolean d = below(2) == 0; check("teach", x.teach(p, f, d), m.teach(p, f, d)); break; }
            case 17: { int v = near(9); check("price", x.price(p, v), m.price(p, v)); break; }
            case 18: check("know", x.know(f), m.know(f)); break;
            case 19: case 20: case 21: plans(r, f); break;
            case 22: for (int w = 0; w < 2; w++) check("latest", x.latest(r, f, w), m.latest(r, f, w)); break;
            case 23: steered(r, f); break;
            case 24: check("common", x.common(r), m.common(r)); break;
            case 25: case 26: { int s = below(3) == 0 ? p : -4; check("saw", x.saw(s), m.saw(s)); break; }
            case 27: if (below(3) == 0) check("forget", x.forget(), m.forget()); break;
            case 28: { int k = near(1), w = below(8) == 0 ? near(9) : below(7) == 0 ? 0 : 10 + below(6);
                check("talks " + w, x.talks(k, w), m.talks(k, w));
                if (below(2) == 0) check("talks 0", x.talks(k, 0), m.talks(k, 0));
                break; }
            case 29: { int k = near(1); check("keep", x.keep(k), m.keep(k)); break; }
            case 30: { int k = near(1); check("back", x.back(k), m.back(k)); break; }
            case 31: { int k = near(3), l = near(2), n = below(4) == 0 ? near(40) : below(14); check("sheet", x.sheet(k, l, n), m.sheet(k, l, n)); break; }
            case 32: case 33: { int k = near(3); for (int i = 0; i < 12; i++) { int c = below(9) == 0 ? near(39) : i, v = drawnAct(); check("lay", x.lay(k, c, v), m.lay(k, c, v)); } break; }
            case 34: case 35: readBoth(r); break;
            default: break;
        }
    }

    private void plans(int r, int f) {
        int some = someOf(r), how = near(2);
        String call = "plan " + r + " " + f + " " + some + " " + how + " ";
        int[] whats = {0, 1, 10, 11, 10 + below(12), near(12)};
        for (int w : whats) check(call + w, x.plan(r, f, some, how, w), m.plan(r, f, some, how, w));
    }

    private void steered(int r, int f) {
        if (below(2) == 0) check("ring", x.ring(r), m.ring(r));
        for (int w = 0; w < 2; w++) check("steer", x.steer(r, f, w), m.steer(r, f, w));
        int i = near(4);
        check("cut", x.cut(r, i), m.cut(r, i));
    }

    private void readBoth(int r) {
        int k = near(3), lane = near(2), from = below(3) == 0 ? near(12) : 0, n = below(3) == 0 ? near(12) : below(4);
        String call = "read " + k + " " + lane + " " + r + " " + from + " " + n;
        check(call, x.read(k, lane, r, from, n), m.read(k, lane, r, from, n));
        check(call + ": torn", x.torn(), m.torn());
        check(call + ": hour", x.rule(1), m.rule(1));
    }
}
