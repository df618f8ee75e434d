import java.util.ArrayList;
import java.util.Arrays;
import java.util.HashSet;
import java.util.List;
import java.util.PriorityQueue;
import java.util.Set;
import java.util.TreeSet;
import java.util.regex.Matcher;
import java.util.regex.Pattern;

/** The document once more, in the plainest way and with the whole library, to compare with. */
final class NaiveModel {
    static final int BAD = -1, STATE = -2, FULL = -3, NONE = -4;

    static final class Person {
        String kind;
        int price;
        TreeSet<Integer> facts = new TreeSet<>();
        Person copy() {
            Person c = new Person();
            c.kind = kind;
            c.price = price;
            c.facts.addAll(facts);
            return c;
        }
    }

    static final class World {
        List<Person> people = new ArrayList<>();
        List<List<Integer>> rows = List.of(new ArrayList<>(), new ArrayList<>());
        boolean[] ring = new boolean[2];
        int hour;
        World copy() {
            World c = new World();
            for (Person p : people) c.people.add(p.copy());
            for (int r = 0; r < 2; r++) c.rows.get(r).addAll(rows.get(r));
            c.ring = ring.clone();
            c.hour = hour;
            return c;
        }
        String kind(int p) { return people.get(p).kind; }
    }

    static final List<String> KINDS = List.of("plain", "quick", "liar", "deaf", "mute");

    World w = new World();
    World[] images = new World[2];
    List<Integer> seen = new ArrayList<>();
    StringBuilder tape = new StringBuilder();
    int fault, torn;
    Object[] sheets = new Object[4];

    // ---- the text

    int feed(long v) {
        if (tape.length() > 312) return FULL;
        for (int b = 7; b >= 0; b--) tape.append((char) (v >> 8 * b & 255));
        return tape.length();
    }

    int end(int n) {
        int had = tape.length();
        if (n < 0 || n > had) return BAD;
        tape.setLength(n);
        return had;
    }

    static final class Fault extends RuntimeException {
        private static final long serialVersionUID = 1;
        final int number, place;
        Fault(int number, int place) { this.number = number; this.place = place; }
    }

    static final Pattern TOKEN = Pattern.compile("[a-z]+|[0-9]+|;");

    /** Tokens one at a time; "" is the end. */
    static final class Lexer {
        final String s;
        int pos, start;
        String cur;
        Lexer(String s) { this.s = s; }
        void read() {
            while (pos < s.length() && s.charAt(pos) == ' ') pos++;
            start = pos;
            if (pos == s.length()) { cur = ""; return; }
            Matcher m = TOKEN.matcher(s).region(pos, s.length());
            if (!m.lookingAt()) throw new Fault(1, start);
            cur = m.group();
            if (Character.isDigit(cur.charAt(0)) && cur.length() > 2) throw new Fault(1, start);
            pos = m.end();
        }
        int num(int most) {
            if (!cur.matches("[0-9]+")) throw new Fault(2, start);
            int v = Integer.parseInt(cur);
            if (v > most) throw new Fault(3, start);
            return v;
        }
    }

    int text() {
        String s = tape.toString();
        tape.setLength(0);
        try {
            World n = new World();
            int lines = parse(s, n);
            w = n;
            images = new World[2];
            seen.clear();
            fault = 0;
            return lines;
        } catch (Fault f) {
            fault = f.number;
            return -10 - f.place;
        }
    }

    int parse(String s, World n) {
        Lexer x = new Lexer(s);
        Set<Integer> in = new HashSet<>(), told = new HashSet<>();
        int lines = 0;
        for (x.read(); !x.cur.equals(""); x.read()) {
            lines++;
            if (x.cur.equals("person")) {
                if (n.people.size() == 6) throw new Fault(5, x.start);
                Person p = new Person();
                x.read();
                if (!KINDS.contains(x.cur)) throw new Fault(2, x.start);
                p.kind = x.cur;
                x.read();
                p.price = x.num(9);
                for (x.read(); !x.cur.equals(";"); x.read()) {
                    if (!p.facts.add(x.num(3))) throw new Fault(4, x.start);
                }
                n.people.add(p);
            } else if (x.cur.equals("row")) {
                x.read();
                int r = x.num(1);
                if (!told.add(r)) throw new Fault(4, x.start);
                x.read();
                do {
                    int p = x.num(5);
                    if (!in.add(p)) throw new Fault(4, x.start);
                    n.rows.get(r).add(p);
                    x.read();
                } while (!x.cur.equals(";"));
            } else if (x.cur.equals("ring")) {
                x.read();
                int r = x.num(1);
                if (n.ring[r]) throw new Fault(4, x.start);
                n.ring[r] = true;
                x.read();
                if (!x.cur.equals(";")) throw new Fault(2, x.start);
            } else {
                throw new Fault(2, x.start);
            }
        }
        for (int p : in) if (p >= n.people.size()) throw new Fault(6, s.length());
        return lines;
    }

    int fault() { return fault; }

    int rule(int what) {
        if (what == 0) return w.people.size();
        if (what == 1) return w.hour;
        if (what == 2 || what == 3) return w.rows.get(what - 2).size();
        if (what == 4 || what == 5) return w.ring[what - 4] ? 1 : 0;
        return BAD;
    }

    boolean noOne(int p) { return p < 0 || p >= w.people.size(); }
    static boolean noRow(int r) { return r != 0 && r != 1; }
    static boolean noFact(int f) { return f < 0 || f > 3; }
    boolean noPlace(int r, int i) { return noRow(r) || i < 0 || i >= w.rows.get(r).size(); }
    static int bits(Iterable<Integer> xs) {
        int b = 0;
        for (int x : xs) b |= 1 << x;
        return b;
    }

    int one(int p, int what) {
        if (noOne(p)) return BAD;
        Person o = w.people.get(p);
        int row = w.rows.get(0).contains(p) ? 0 : w.rows.get(1).contains(p) ? 1 : NONE;
        if (what == 0) return KINDS.indexOf(o.kind);
        if (what == 1) return o.price;
        if (what == 2) return bits(o.facts);
        if (what == 3) return row;
        if (what == 4) return row == NONE ? NONE : w.rows.get(row).indexOf(p);
        return BAD;
    }

    int at(int r, int i) { return noPlace(r, i) ? BAD : w.rows.get(r).get(i); }

    int know(int f) {
        if (noFact(f)) return BAD;
        int b = 0;
        for (int p = 0; p < w.people.size(); p++) if (w.people.get(p).facts.contains(f)) b |= 1 << p;
        return b;
    }

    // ---- acts, as functions of a world

    static int say(World w, int r, int f) {
        List<Integer> row = w.rows.get(r);
        if (w.ring[r] || row.size() < 2) return STATE;
        int last = row.get(row.size() - 1), ahead = row.get(row.size() - 2);
        if (w.kind(last).equals("mute")) return STATE;
        if (!w.people.get(last).facts.contains(f)) return NONE;
        w.hour++;
        if (w.kind(last).equals("liar") || w.kind(ahead).equals("deaf")) return 0;
        return w.people.get(ahead).facts.add(f) ? 1 : 0;
    }

    static int ask(World w, int r, int f) {
        List<Integer> row = w.rows.get(r);
        if (w.ring[r] || row.size() < 2) return STATE;
        int last = row.get(row.size() - 1), ahead = row.get(row.size() - 2);
        if (w.kind(last).equals("mute")) return STATE;
        w.hour++;
        if (!w.people.get(ahead).facts.contains(f) || w.kind(ahead).equals("liar")) return 0;
        return w.people.get(last).facts.add(f) ? 1 : 0;
    }

    static int go(World w, int r, int i) {
        List<Integer> row = w.rows.get(r);
        if (i < 0 || i >= row.size()) return BAD;
        if (w.ring[r]) return STATE;
        int p = row.remove(i);
        row.add(p);
        if (!w.kind(p).equals("quick")) w.hour++;
        return p;
    }

    int say(int r, int f) { return noRow(r) || noFact(f) ? BAD : say(w, r, f); }
    int ask(int r, int f) { return noRow(r) || noFact(f) ? BAD : ask(w, r, f); }
    int go(int r, int i) { return noRow(r) ? BAD : go(w, r, i); }

    int change(int r) {
        if (noRow(r)) return BAD;
        if (w.ring[0] || w.ring[1]) return STATE;
        List<Integer> row = w.rows.get(r);
        if (row.isEmpty()) return NONE;
        int p = row.remove(row.size() - 1);
        w.rows.get(1 - r).add(p);
        w.hour++;
        return p;
    }

    int serve(int r) {
        if (noRow(r)) return BAD;
        if (w.ring[r]) return STATE;
        if (w.rows.get(r).isEmpty()) return NONE;
        w.hour++;
        return w.rows.get(r).remove(0);
    }

    int come(int p, int r) {
        if (noOne(p) || noRow(r)) return BAD;
        if (w.rows.get(0).contains(p) || w.rows.get(1).contains(p) || w.ring[r]) return STATE;
        w.rows.get(r).add(p);
        w.hour++;
        return w.rows.get(r).indexOf(p);
    }

    int split(int i) {
        List<Integer> row = w.rows.get(0);
        if (i < 1 || i >= row.size()) return BAD;
        if (!w.rows.get(1).isEmpty() || w.ring[0] || w.ring[1]) return STATE;
        List<Integer> tail = row.subList(i, row.size());
        w.rows.get(1).addAll(tail);
        tail.clear();
        return w.rows.get(1).size();
    }

    int join() {
        if (w.ring[0] || w.ring[1]) return STATE;
        w.rows.get(0).addAll(w.rows.get(1));
        w.rows.get(1).clear();
        return w.rows.get(0).size();
    }

    int ring(int r) {
        if (noRow(r)) return BAD;
        if (w.ring[r]) return STATE;
        w.ring[r] = true;
        return 1;
    }

    static int cut(World w, int r, int i) {
        List<Integer> row = w.rows.get(r), was = new ArrayList<>(row);
        row.clear();
        row.addAll(was.subList(i + 1, was.size()));
        row.addAll(was.subList(0, i + 1));
        w.ring[r] = false;
        return was.get(i);
    }

    int cut(int r, int i) {
        if (noPlace(r, i)) return BAD;
        return w.ring[r] ? cut(w, r, i) : STATE;
    }

    int lot(int r, int seed) {
        if (noRow(r)) return BAD;
        if (!w.ring[r]) return STATE;
        int n = w.rows.get(r).size();
        if (n == 0) return NONE;
        long x = (long) seed * 1103515245L + 12345L;
        return cut(w, r, (int) ((x >> 16 & 0x7fffL) % n));
    }

    int teach(int p, int f, boolean does) {
        if (noOne(p) || noFact(f)) return BAD;
        TreeSet<Integer> facts = w.people.get(p).facts;
        boolean did = does ? !facts.add(f) : facts.remove(f);
        return did ? 1 : 0;
    }

    int price(int p, int v) {
        if (noOne(p) || v < 0 || v > 9) return BAD;
        int was = w.people.get(p).price;
        w.people.get(p).price = v;
        return was;
    }

    // ---- plans: the order of whole paths, by cost, length, acts

    record Path(int cost, List<Integer> acts, World end) implements Comparable<Path> {
        public int compareTo(Path o) {
            if (cost != o.cost) return Integer.compare(cost, o.cost);
            if (acts.size() != o.acts.size()) return Integer.compare(acts.size(), o.acts.size());
            for (int i = 0; i < acts.size(); i++) {
                int c = Integer.compare(acts.get(i), o.acts.get(i));
                if (c != 0) return c;
            }
            return 0;
        }
    }

    static String name(World w, int r, int f) {
        StringBuilder b = new StringBuilder();
        for (int p : w.rows.get(r)) b.append(p).append(w.people.get(p).facts.contains(f) ? '+' : '-');
        return b.toString();
    }

    static Path plan(World from, int r, int f, int some, int how) {
        PriorityQueue<Path> open = new PriorityQueue<>();
        Set<String> done = new HashSet<>();
        open.add(new Path(0, List.of(), from.copy()));
        while (!open.isEmpty()) {
            Path p = open.remove();
            if (!done.add(name(p.end, r, f))) continue;
            boolean all = true;
            for (int q = 0; q < 6; q++) if ((some >> q & 1) != 0) all &= p.end.people.get(q).facts.contains(f);
            if (all) return p;
            for (int act = 0; act < 10 + from.rows.get(r).size(); act = act == 1 ? 10 : act + 1) {
                World n = p.end.copy();
                int got = act == 0 ? say(n, r, f) : act == 1 ? ask(n, r, f) : go(n, r, act - 10);
                if (got < 0) continue;
                int cost = how == 0 ? n.hour - p.end.hour : act < 10 ? 0 : how == 1 ? 1 : n.people.get(got).price;
                List<Integer> acts = new ArrayList<>(p.acts);
                acts.add(act);
                open.add(new Path(p.cost + cost, acts, n));
            }
        }
        return null;
    }

    int plan(int r, int f, int some, int how, int what) {
        if (noRow(r) || noFact(f) || how < 0 || how > 2) return BAD;
        if (some < 0 || (some & bits(w.rows.get(r))) != some) return BAD;
        if (what < 0 || what > 1 && what < 10) return BAD;
        if (w.ring[r] || w.rows.get(r).size() > 5) return STATE;
        Path p = plan(w, r, f, some, how);
        if (p == null) return NONE;
        if (what < 2) return what == 0 ? p.cost : p.acts.size();
        return what - 10 < p.acts.size() ? p.acts.get(what - 10) : NONE;
    }

    int latest(int r, int f, int what) {
        if (noRow(r) || noFact(f) || what < 0 || what > 1) return BAD;
        if (w.ring[r] || w.rows.get(r).size() > 5) return STATE;
        int best = -1, who = NONE;
        for (int p : w.rows.get(r)) {
            Path x = plan(w, r, f, 1 << p, 0);
            if (x == null) return NONE;
            if (x.cost > best) { best = x.cost; who = p; }
        }
        return who == NONE ? NONE : what == 0 ? who : best;
    }

    int steer(int r, int f, int what) {
        if (noRow(r) || noFact(f) || what < 0 || what > 1) return BAD;
        if (!w.ring[r] || w.rows.get(r).size() > 5) return STATE;
        int best = Integer.MAX_VALUE, where = NONE;
        for (int i = 0; i < w.rows.get(r).size(); i++) {
            World n = w.copy();
            cut(n, r, i);
            Path x = plan(n, r, f, bits(n.rows.get(r)), 0);
            if (x != null && x.cost < best) { best = x.cost; where = i; }
        }
        return where == NONE ? NONE : what == 0 ? where : best;
    }

    int common(int r) {
        if (noRow(r)) return BAD;
        if (w.ring[r] || w.rows.get(r).size() > 5) return STATE;
        int b = 0;
        for (int f = 0; f < 4; f++) if (plan(w, r, f, bits(w.rows.get(r)), 1) != null) b |= 1 << f;
        return b;
    }

    // ---- talks: every row of acts, tried

    int saw(int p) {
        if (p != NONE && noOne(p)) return BAD;
        if (seen.size() == 5) return FULL;
        seen.add(p);
        return seen.size();
    }

    int forget() {
        int n = seen.size();
        seen.clear();
        return n;
    }

    int talksFound;
    int[] firstTalk;

    void tryTalks(World from, int i, int[] acts) {
        if (i == seen.size()) {
            for (int p = 0; p < w.people.size(); p++) {
                if (!from.people.get(p).facts.equals(w.people.get(p).facts)) return;
            }
            if (talksFound++ == 0) firstTalk = acts.clone();
            return;
        }
        int p = seen.get(i);
        for (int act = 0; act <= 9; act++) {
            if ((act == 9) != (p != NONE)) continue;
            World n = from.copy();
            int got = 0;
            if (act < 4) got = say(n, 0, act);
            else if (act < 8) got = ask(n, 0, act - 4);
            else if (act == 9) got = go(n, 0, n.rows.get(0).indexOf(p));
            if (got < 0) continue;
            acts[i] = act;
            tryTalks(n, i + 1, acts);
        }
    }

    int talks(int k, int what) {
        if (k != 0 && k != 1) return BAD;
        if (what != 0 && (what < 10 || what >= 10 + seen.size())) return BAD;
        if (images[k] == null || images[k].ring[0]) return STATE;
        talksFound = 0;
        tryTalks(images[k], 0, new int[5]);
        if (what == 0) return talksFound;
        return talksFound == 0 ? NONE : firstTalk[what - 10];
    }

    // ---- images, sheets: here the machine itself finds the faults

    int keep(int k) {
        if (k != 0 && k != 1) return BAD;
        int was = images[k] == null ? 0 : 1;
        images[k] = w.copy();
        return was;
    }

    int back(int k) {
        if (k != 0 && k != 1) return BAD;
        if (images[k] == null) return STATE;
        w = images[k].copy();
        return w.hour;
    }

    int sheet(int k, int lane, int n) {
        if (k < 0 || k > 3 || lane < 0 || lane > 2 || n > 40) return BAD;
        try {
            sheets[k] = lane == 0 ? new byte[n] : lane == 1 ? new short[n] : (Object) new int[n];
            return 1;
        } catch (NegativeArraySizeException e) {
            return -14;
        }
    }

    int lay(int k, int i, int v) {
        if (k < 0 || k > 3) return BAD;
        try {
            if (sheets[k] instanceof byte[] b) b[i] = (byte) v;
            else if (sheets[k] instanceof short[] s) s[i] = (short) v;
            else ((int[]) sheets[k])[i] = v;
            return 1;
        } catch (NullPointerException e) {
            return -11;
        } catch (ArrayIndexOutOfBoundsException e) {
            return -12;
        }
    }

    int read(int k, int lane, int r, int f, int n) {
        if (k < 0 || k > 3 || lane < 0 || lane > 2 || noRow(r) || n < 0 || n > 12) return BAD;
        World was = w.copy();
        int done = 0, found = 0;
        try {
            for (int i = 0; i < n; i++) {
                int v = lane == 0 ? ((byte[]) sheets[k])[f + i]
                    : lane == 1 ? ((short[]) sheets[k])[f + i] : ((int[]) sheets[k])[f + i];
                int got = v < 0 || v == 8 || v == 9 ? BAD
                    : v < 4 ? say(r, v) : v < 8 ? ask(r, v - 4) : go(r, v - 10);
                if (got < 0) {
                    w = was;
                    return -20 - i;
                }
                done++;
            }
        } catch (NullPointerException e) {
            found = 1;
        } catch (ArrayIndexOutOfBoundsException e) {
            found = 2;
        } catch (ClassCastException e) {
            found = 3;
        }
        torn = found;
        return done;
    }

    int torn() { return torn; }

    int count(int what) {
        if (what == 0) return w.rows.get(0).size() + w.rows.get(1).size();
        if (what == 1) return (int) w.people.stream().filter(p -> p.facts.isEmpty()).count();
        if (what == 2) return seen.size();
        if (what == 3) return (int) Arrays.stream(images).filter(i -> i != null).count();
        if (what == 4) return tape.length();
        if (what == 5) return sheets[0] == null ? NONE : java.lang.reflect.Array.getLength(sheets[0]);
        return BAD;
    }
}
