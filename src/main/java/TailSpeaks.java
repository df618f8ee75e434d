import java.util.Arrays;

/** People in rows of whom the last alone may speak, and to the one ahead alone. */
public final class TailSpeaks {
    public static final int BAD = -1, STATE = -2, FULL = -3, NONE = -4;

    private static final int SEEN_MOST = 5;
    private static final int READ_MOST = 12;
    private static final int ASK_FROM = 4, ASK_TO = 7, GO_FROM = 10;

    private final Tape tape = new Tape();
    private final Crowd now = new Crowd();
    private final Crowd spare = new Crowd();
    private final Crowd[] images = {new Crowd(), new Crowd()};
    private final boolean[] kept = new boolean[2];
    private final int[] seen = new int[SEEN_MOST];
    private int seenMany;
    private final Sheet[] sheets = {new Sheet(), new Sheet(), new Sheet(), new Sheet()};
    private int tornBy;
    private Search search;
    private final Talks talker = new Talks();

    public TailSpeaks() {
    }

    // ---- the text, what there is

    public int feed(long v) {
        return tape.append(v) ? tape.length : FULL;
    }

    public int end(int n) {
        int had = tape.length;
        return tape.shorten(n) ? had : BAD;
    }

    public int text() {
        int lines = tape.tell(spare);
        if (tape.fault != 0) return -10 - tape.place;
        now.copyFrom(spare);
        seenMany = 0;
        kept[0] = false;
        kept[1] = false;
        return lines;
    }

    public int fault() {
        return tape.fault;
    }

    public int rule(int what) {
        switch (what) {
            case 0: return now.people;
            case 1: return now.hour;
            case 2: return now.sizeOf(0);
            case 3: return now.sizeOf(1);
            case 4: return now.isRing(0) ? 1 : 0;
            case 5: return now.isRing(1) ? 1 : 0;
            default: return BAD;
        }
    }

    public int one(int p, int what) {
        if (!now.isOne(p)) return BAD;
        switch (what) {
            case 0: return now.kindOf(p);
            case 1: return now.prices[p];
            case 2: return now.factsOf(p);
            case 3: return now.rowOf(p);
            case 4: return now.placeOf(p);
            default: return BAD;
        }
    }

    public int at(int r, int i) {
        return now.isPlace(r, i) ? now.whoIsAt(r, i) : BAD;
    }

    public int know(int f) {
        return Crowd.isFact(f) ? now.whoKnow(f) : BAD;
    }

    // ---- acts

    public int say(int r, int f) {
        if (!Crowd.isRow(r) || !Crowd.isFact(f)) return BAD;
        return now.sayIn(r, f);
    }

    public int ask(int r, int f) {
        if (!Crowd.isRow(r) || !Crowd.isFact(f)) return BAD;
        return now.askIn(r, f);
    }

    public int go(int r, int i) {
        if (!now.isPlace(r, i)) return BAD;
        if (now.isRing(r)) return STATE;
        return now.goIn(r, i);
    }

    public int change(int r) {
        if (!Crowd.isRow(r)) return BAD;
        if (now.hasRing()) return STATE;
        if (now.sizeOf(r) == 0) return NONE;
        int who = now.takeOut(r, now.sizeOf(r) - 1);
        now.putBehind(1 - r, who);
        now.hour++;
        return who;
    }

    public int serve(int r) {
        if (!Crowd.isRow(r)) return BAD;
        if (now.isRing(r)) return STATE;
        if (now.sizeOf(r) == 0) return NONE;
        now.hour++;
        return now.takeOut(r, 0);
    }

    public int come(int p, int r) {
        if (!now.isOne(p) || !Crowd.isRow(r)) return BAD;
        if (now.rowOf(p) != NONE || now.isRing(r)) return STATE;
        now.putBehind(r, p);
        now.hour++;
        return now.sizeOf(r) - 1;
    }

    public int split(int i) {
        if (i < 1 || !now.isPlace(0, i)) return BAD;
        if (now.sizeOf(1) > 0 || now.hasRing()) return STATE;
        int many = now.sizeOf(0) - i;
        now.moveAll(0, i, 1);
        return many;
    }

    public int join() {
        if (now.hasRing()) return STATE;
        now.moveAll(1, 0, 0);
        return now.sizeOf(0);
    }

    // ---- rings

    public int ring(int r) {
        if (!Crowd.isRow(r)) return BAD;
        if (now.isRing(r)) return STATE;
        now.rings[r] = true;
        return 1;
    }

    public int cut(int r, int i) {
        if (!now.isPlace(r, i)) return BAD;
        if (!now.isRing(r)) return STATE;
        return now.openRing(r, i);
    }

    public int lot(int r, int seed) {
        if (!Crowd.isRow(r)) return BAD;
        if (!now.isRing(r)) return STATE;
        int many = now.sizeOf(r);
        if (many == 0) return NONE;
        int drawn = (seed * 1103515245 + 12345) >>> 16 & 0x7fff;
        return now.openRing(r, drawn % many);
    }

    // ---- what is told otherwise

    public int teach(int p, int f, boolean does) {
        if (!now.isOne(p) || !Crowd.isFact(f)) return BAD;
        int did = now.factsOf(p) >> f & 1;
        if (does) now.knows[p] |= 1 << f;
        else now.knows[p] &= ~(1 << f);
        return did;
    }

    public int price(int p, int v) {
        if (!now.isOne(p) || v < 0 || v > Crowd.PRICE_MOST) return BAD;
        int was = now.prices[p];
        now.prices[p] = v;
        return was;
    }

    // ---- plans

    public int plan(int r, int f, int some, int how, int what) {
        if (!Crowd.isRow(r) || !Crowd.isFact(f) || how < 0 || how > Search.COINS) return BAD;
        if ((some & ~now.whoStand(r)) != 0) return BAD;
        if (what != 0 && what != 1 && what < 10) return BAD;
        if (now.isRing(r) || now.sizeOf(r) > Search.MOST) return STATE;
        Search s = searchIn(r, 0);
        s.pose(f, how);
        s.find(s.elementsOf(some));
        if (!s.found()) return NONE;
        if (what == 0) return s.cost();
        return what == 1 ? s.length() : s.step(what - 10);
    }

    public int latest(int r, int f, int what) {
        if (!Crowd.isRow(r) || !Crowd.isFact(f) || what < 0 || what > 1) return BAD;
        if (now.isRing(r) || now.sizeOf(r) > Search.MOST) return STATE;
        Search s = searchIn(r, 0);
        s.pose(f, Search.MINUTES);
        int who = NONE, dearest = NONE;
        for (int i = 0; i < now.sizeOf(r); i++) {
            int here = now.whoIsAt(r, i);
            s.find(s.elementsOf(1 << here));
            if (!s.found()) return NONE;
            if (s.cost() <= dearest) continue;
            dearest = s.cost();
            who = here;
        }
        return what == 0 ? who : dearest;
    }

    public int steer(int r, int f, int what) {
        if (!Crowd.isRow(r) || !Crowd.isFact(f) || what < 0 || what > 1) return BAD;
        if (!now.isRing(r) || now.sizeOf(r) > Search.MOST) return STATE;
        int place = NONE, cheapest = NONE;
        for (int i = 0; i < now.sizeOf(r); i++) {
            Search s = searchIn(r, i + 1);
            s.pose(f, Search.MINUTES);
            s.find(s.everybody());
            if (!s.found() || place != NONE && s.cost() >= cheapest) continue;
            cheapest = s.cost();
            place = i;
        }
        return what == 0 ? place : cheapest;
    }

    public int common(int r) {
        if (!Crowd.isRow(r)) return BAD;
        if (now.isRing(r) || now.sizeOf(r) > Search.MOST) return STATE;
        Search s = searchIn(r, 0);
        int facts = 0;
        for (int f = 0; f < Crowd.FACTS; f++) {
            s.pose(f, Search.MINUTES);
            if (s.canBe(s.everybody())) facts |= 1 << f;
        }
        return facts;
    }

    /** The search in a row from a place on; made late, as most objects need none. */
    private Search searchIn(int r, int from) {
        if (search == null) search = new Search();
        search.prepare(now, r, from);
        return search;
    }

    // ---- talks

    public int saw(int p) {
        if (p != NONE && !now.isOne(p)) return BAD;
        if (seenMany >= SEEN_MOST) return FULL;
        seen[seenMany] = p;
        seenMany++;
        return seenMany;
    }

    public int forget() {
        int had = seenMany;
        seenMany = 0;
        return had;
    }

    public int talks(int k, int what) {
        if (!isImage(k)) return BAD;
        if (what != 0 && (what < 10 || what - 10 >= seenMany)) return BAD;
        if (!kept[k] || images[k].isRing(0)) return STATE;
        talker.prepare(images[k], now, seen, seenMany);
        return what == 0 ? talker.ways() : talker.actOfFirst(what - 10);
    }

    // ---- images, sheets

    public int keep(int k) {
        if (!isImage(k)) return BAD;
        int was = kept[k] ? 1 : 0;
        images[k].copyFrom(now);
        kept[k] = true;
        return was;
    }

    public int back(int k) {
        if (!isImage(k)) return BAD;
        if (!kept[k]) return STATE;
        now.copyFrom(images[k]);
        return now.hour;
    }

    public int sheet(int k, int lane, int n) {
        if (!isSheet(k) || !Sheet.isLane(lane) || n > Sheet.CELLS_MOST) return BAD;
        if (n < 0) return -10 - Sheet.SIZE_FAULT;
        sheets[k].renew(lane, n);
        return 1;
    }

    public int lay(int k, int i, int v) {
        if (!isSheet(k)) return BAD;
        int fault = sheets[k].faultOf(sheets[k].lane, i);
        if (fault != 0) return -10 - fault;
        sheets[k].write(i, v);
        return 1;
    }

    public int read(int k, int lane, int r, int f, int n) {
        if (!isSheet(k) || !Sheet.isLane(lane) || !Crowd.isRow(r)) return BAD;
        if (n < 0 || n > READ_MOST) return BAD;
        spare.copyFrom(now);
        int fault = 0, done = 0;
        for (int i = 0; i < n; i++) {
            fault = sheets[k].faultOf(lane, f + i);
            if (fault != 0) break;
            if (actBy(r, sheets[k].cellAt(f + i)) < 0) {
                now.copyFrom(spare);
                return -20 - i;
            }
            done++;
        }
        tornBy = fault;
        return done;
    }

    public int torn() {
        return tornBy;
    }

    public int count(int what) {
        switch (what) {
            case 0: return now.sizeOf(0) + now.sizeOf(1);
            case 1: return now.ignorant();
            case 2: return seenMany;
            case 3: return (kept[0] ? 1 : 0) + (kept[1] ? 1 : 0);
            case 4: return tape.length;
            case 5: return sheets[0].isNothing() ? NONE : sheets[0].size;
            default: return BAD;
        }
    }

    private int actBy(int r, int cell) {
        if (Crowd.isFact(cell)) return say(r, cell);
        if (cell >= ASK_FROM && cell <= ASK_TO) return ask(r, cell - ASK_FROM);
        return cell >= GO_FROM ? go(r, cell - GO_FROM) : BAD;
    }

    private static boolean isImage(int k) {
        return k == 0 || k == 1;
    }

    private boolean isSheet(int k) {
        return k >= 0 && k < sheets.length;
    }

    /** All that is told: the people, their rows, the hour. */
    private static final class Crowd {
        static final int PEOPLE_MOST = 6, FACTS = 4, PRICE_MOST = 9;
        static final int QUICK = 1, LIAR = 2, DEAF = 3, MUTE = 4;

        int people;
        int hour;
        final int[] kinds = new int[PEOPLE_MOST];
        final int[] prices = new int[PEOPLE_MOST];
        final int[] knows = new int[PEOPLE_MOST];
        final boolean[] rings = new boolean[2];
        private final int[] sizes = new int[2];
        private final int[] standing = new int[2 * PEOPLE_MOST];

        void clear() {
            people = 0;
            hour = 0;
            for (int r = 0; r < 2; r++) {
                sizes[r] = 0;
                rings[r] = false;
            }
        }

        void copyFrom(Crowd other) {
            people = other.people;
            hour = other.hour;
            for (int p = 0; p < PEOPLE_MOST; p++) {
                kinds[p] = other.kinds[p];
                prices[p] = other.prices[p];
                knows[p] = other.knows[p];
            }
            for (int r = 0; r < 2; r++) {
                sizes[r] = other.sizes[r];
                rings[r] = other.rings[r];
            }
            for (int i = 0; i < standing.length; i++) standing[i] = other.standing[i];
        }

        void add(int kind, int price, int facts) {
            if (people >= PEOPLE_MOST) return;
            kinds[people] = kind;
            prices[people] = price;
            knows[people] = facts;
            people++;
        }

        static boolean isRow(int r) {
            return r == 0 || r == 1;
        }

        static boolean isFact(int f) {
            return f >= 0 && f < FACTS;
        }

        boolean isOne(int p) {
            return p >= 0 && p < people;
        }

        boolean isPlace(int r, int i) {
            return isRow(r) && i >= 0 && i < sizes[r];
        }

        boolean isRing(int r) {
            return isRow(r) && rings[r];
        }

        boolean hasRing() {
            return rings[0] || rings[1];
        }

        int sizeOf(int r) {
            return isRow(r) ? sizes[r] : 0;
        }

        int kindOf(int p) {
            return isOne(p) ? kinds[p] : NONE;
        }

        int factsOf(int p) {
            return isOne(p) ? knows[p] : 0;
        }

        int whoIsAt(int r, int i) {
            return isPlace(r, i) ? standing[r * PEOPLE_MOST + i] : NONE;
        }

        int rowOf(int p) {
            if ((whoStand(0) >> p & 1) != 0) return 0;
            return (whoStand(1) >> p & 1) != 0 ? 1 : NONE;
        }

        int placeOf(int p) {
            int r = rowOf(p);
            for (int i = 0; i < sizeOf(r); i++) {
                if (whoIsAt(r, i) == p) return i;
            }
            return NONE;
        }

        /** Those in a row, as bits. */
        int whoStand(int r) {
            int bits = 0;
            for (int i = 0; i < sizeOf(r); i++) bits |= 1 << whoIsAt(r, i);
            return bits;
        }

        int whoKnow(int f) {
            int bits = 0;
            for (int p = 0; p < people; p++) bits |= (knows[p] >> f & 1) << p;
            return bits;
        }

        int ignorant() {
            int many = 0;
            for (int p = 0; p < people; p++) {
                if (knows[p] == 0) many++;
            }
            return many;
        }

        int takeOut(int r, int i) {
            if (!isPlace(r, i)) return NONE;
            int who = whoIsAt(r, i);
            sizes[r]--;
            for (int j = i; j < sizes[r]; j++) {
                standing[r * PEOPLE_MOST + j] = standing[r * PEOPLE_MOST + j + 1];
            }
            return who;
        }

        void putBehind(int r, int p) {
            if (!isRow(r) || sizes[r] >= PEOPLE_MOST) return;
            standing[r * PEOPLE_MOST + sizes[r]] = p;
            sizes[r]++;
        }

        /** Those of one row from a place on come behind another row. */
        void moveAll(int from, int i, int to) {
            int many = sizeOf(from) - i;
            for (int j = 0; j < many; j++) putBehind(to, takeOut(from, i));
        }

        int openRing(int r, int i) {
            if (!isPlace(r, i)) return NONE;
            rings[r] = false;
            for (int j = 0; j <= i; j++) putBehind(r, takeOut(r, 0));
            return whoIsAt(r, sizeOf(r) - 1);
        }

        int sayIn(int r, int f) {
            if (!mayTalk(r)) return STATE;
            int last = whoIsAt(r, sizeOf(r) - 1), ahead = whoIsAt(r, sizeOf(r) - 2);
            if ((factsOf(last) >> f & 1) == 0) return NONE;
            hour++;
            return hears(kindOf(last), kindOf(ahead)) ? learn(ahead, f) : 0;
        }

        int askIn(int r, int f) {
            if (!mayTalk(r)) return STATE;
            int last = whoIsAt(r, sizeOf(r) - 1), ahead = whoIsAt(r, sizeOf(r) - 2);
            hour++;
            if ((factsOf(ahead) >> f & 1) == 0) return 0;
            return isNodded(kindOf(last), kindOf(ahead)) ? learn(last, f) : 0;
        }

        int goIn(int r, int i) {
            int who = takeOut(r, i);
            putBehind(r, who);
            if (kindOf(who) != QUICK) hour++;
            return who;
        }

        private boolean mayTalk(int r) {
            if (isRing(r) || sizeOf(r) < 2) return false;
            return kindOf(whoIsAt(r, sizeOf(r) - 1)) != MUTE;
        }

        private int learn(int p, int f) {
            if (!isOne(p) || (knows[p] >> f & 1) != 0) return 0;
            knows[p] |= 1 << f;
            return 1;
        }

        /** Whether one of a kind comes to know what another, who knows it, says. */
        static boolean hears(int speaker, int hearer) {
            return speaker != MUTE && speaker != LIAR && hearer != DEAF;
        }

        /** Whether one of a kind comes to know by the nod of another, who knows it. */
        static boolean isNodded(int asker, int asked) {
            return asker != MUTE && asked != LIAR;
        }
    }

    /** The tape and how its text is read. */
    private static final class Tape {
        private static final int BYTES_MOST = 320;
        private static final int END = 0, NAME = 1, NUMBER = 2, STOP = 3;

        private final byte[] bytes = new byte[BYTES_MOST];
        int length;
        int fault;
        int place;
        private int cursor;
        private int start;
        private int token;
        private int value;
        private int told;
        private int placed;

        boolean append(long v) {
            if (length + 8 > BYTES_MOST) return false;
            for (int shift = 56; shift >= 0; shift -= 8) {
                bytes[length] = (byte) (v >>> shift);
                length++;
            }
            return true;
        }

        boolean shorten(int n) {
            if (n < 0 || n > length) return false;
            length = n;
            return true;
        }

        /** Reads all lines into a crowd and empties the tape: how many lines. */
        int tell(Crowd draft) {
            begin(draft);
            int lines = 0;
            for (int i = 0; i <= BYTES_MOST && fault == 0; i++) {
                next();
                if (fault != 0 || token == END) break;
                if (isWord("person")) person(draft);
                else if (isWord("row")) row(draft);
                else if (isWord("ring")) ringed(draft);
                else refuse(2, start);
                lines++;
            }
            if (fault == 0 && placed >> draft.people != 0) refuse(6, length);
            length = 0;
            return lines;
        }

        private void begin(Crowd draft) {
            draft.clear();
            fault = 0;
            place = 0;
            cursor = 0;
            told = 0;
            placed = 0;
        }

        private void refuse(int what, int where) {
            fault = what;
            place = where;
        }

        private void person(Crowd draft) {
            if (draft.people >= Crowd.PEOPLE_MOST) {
                refuse(5, start);
                return;
            }
            int kind = kindTold();
            int price = fault == 0 ? number(Crowd.PRICE_MOST) : NONE;
            int facts = 0;
            // a fact more than there are is a fault of its own
            for (int i = 0; i <= Crowd.FACTS && fault == 0; i++) {
                int f = listed(Crowd.FACTS - 1);
                if (f < 0) break;
                if ((facts >> f & 1) != 0) refuse(4, start);
                facts |= 1 << f;
            }
            if (fault == 0) draft.add(kind, price, facts);
        }

        private void row(Crowd draft) {
            int r = number(1);
            if (fault != 0) return;
            if ((told >> r & 1) != 0) {
                refuse(4, start);
                return;
            }
            told |= 1 << r;
            int p = number(Crowd.PEOPLE_MOST - 1);
            for (int i = 0; i <= Crowd.PEOPLE_MOST && p >= 0; i++) {
                if ((placed >> p & 1) != 0) {
                    refuse(4, start);
                    return;
                }
                placed |= 1 << p;
                draft.putBehind(r, p);
                p = listed(Crowd.PEOPLE_MOST - 1);
            }
        }

        private void ringed(Crowd draft) {
            int r = number(1);
            if (fault != 0) return;
            if (draft.isRing(r)) {
                refuse(4, start);
                return;
            }
            draft.rings[r] = true;
            next();
            if (fault == 0 && token != STOP) refuse(2, start);
        }

        private int kindTold() {
            next();
            if (fault != 0) return NONE;
            if (isWord("plain")) return 0;
            if (isWord("quick")) return Crowd.QUICK;
            if (isWord("liar")) return Crowd.LIAR;
            if (isWord("deaf")) return Crowd.DEAF;
            if (isWord("mute")) return Crowd.MUTE;
            refuse(2, start);
            return NONE;
        }

        /** The next token as a number from 0 to most, NONE at a fault. */
        private int number(int most) {
            next();
            return bounded(most);
        }

        /** The next number of a list, NONE at the end of its line or at a fault. */
        private int listed(int most) {
            next();
            return fault == 0 && token == STOP ? NONE : bounded(most);
        }

        private int bounded(int most) {
            if (fault != 0) return NONE;
            if (token != NUMBER) refuse(2, start);
            else if (value > most) refuse(3, start);
            return fault == 0 ? value : NONE;
        }

        private boolean isWord(String word) {
            if (token != NAME || cursor - start != word.length()) return false;
            for (int i = 0; i < word.length(); i++) {
                if (byteAt(start + i) != word.charAt(i)) return false;
            }
            return true;
        }

        private void next() {
            while (cursor < length && byteAt(cursor) == ' ') cursor++;
            start = cursor;
            if (cursor >= length) token = END;
            else if (byteAt(cursor) == ';') takeStop();
            else if (isLetter(byteAt(cursor))) takeName();
            else if (isFigure(byteAt(cursor))) takeNumber();
            else refuse(1, start);
        }

        private void takeStop() {
            token = STOP;
            cursor++;
        }

        private void takeName() {
            token = NAME;
            while (cursor < length && isLetter(byteAt(cursor))) cursor++;
        }

        private void takeNumber() {
            token = NUMBER;
            value = 0;
            while (cursor < length && isFigure(byteAt(cursor))) {
                value = value * 10 + byteAt(cursor) - '0';
                cursor++;
            }
            if (cursor - start > 2) refuse(1, start);
        }

        private int byteAt(int i) {
            return i >= 0 && i < BYTES_MOST ? bytes[i] : NONE;
        }

        private static boolean isLetter(int c) {
            return c >= 'a' && c <= 'z';
        }

        private static boolean isFigure(int c) {
            return c >= '0' && c <= '9';
        }
    }

    /**
     * The cheapest plans in a row of five at most. A shorter row stands behind
     * elements that never move, so that one table of orders serves all lengths.
     * A state is an order of five elements and, in its lowest bits, those who know.
     */
    private static final class Search {
        static final int MOST = 5;
        static final int MINUTES = 0, GOINGS = 1, COINS = 2;
        private static final int ORDERS = 120, MASKS = 32, STATES = ORDERS * MASKS;
        private static final int SAY = 0, ASK = 1, GO = 2;
        // a key is the cost above, the number of acts in the lowest 12 bits
        private static final int ACT_BITS = 12, FAR = 0x7fffffff;
        // the spot of a state that lies on a cheapest plan
        private static final int GOOD = -1;

        private final int[] who = new int[ORDERS * MOST];
        private final int[] gone = new int[ORDERS * MOST];
        private final int[] ones = new int[MOST];
        private final int[] kinds = new int[MOST];
        private final int[] prices = new int[MOST];
        private final int[] facts = new int[MOST];
        private final int[] goKeys = new int[MOST];
        private int talkKey;
        private int front;
        private int start;
        private long asked = -1;
        private int best = FAR;
        private final int[] keys = new int[STATES];
        // the open states are a heap at the front, the settled ones stand from the back on
        private final int[] heap = new int[STATES];
        private int heaped;
        private int settled;
        private final int[] spots = new int[STATES];

        Search() {
            for (int order = 0; order < ORDERS; order++) layOrder(order);
            for (int order = 0; order < ORDERS; order++) {
                for (int i = 0; i < MOST; i++) gone[order * MOST + i] = orderGone(order * MOST, i);
            }
        }

        /** Takes the ones of a row, from a place on and round to it. */
        void prepare(Crowd crowd, int r, int from) {
            int many = crowd.sizeOf(r);
            front = Math.max(0, MOST - many);
            for (int e = 0; e < MOST; e++) {
                int i = from + e - front;
                int p = e < front ? NONE : crowd.whoIsAt(r, i < many ? i : i - many);
                ones[e] = p;
                kinds[e] = crowd.isOne(p) ? crowd.kindOf(p) : 0;
                prices[e] = crowd.isOne(p) ? crowd.prices[p] : 0;
                facts[e] = crowd.factsOf(p);
            }
        }

        /** Takes the fact and the cost that the next plans are for. */
        void pose(int f, int how) {
            start = 0;
            talkKey = keyOf(how == MINUTES ? 1 : 0);
            for (int e = 0; e < MOST; e++) {
                start |= (facts[e] >> f & 1) << e;
                if (how == MINUTES) goKeys[e] = keyOf(kinds[e] == Crowd.QUICK ? 0 : 1);
                else goKeys[e] = keyOf(how == GOINGS ? 1 : prices[e]);
            }
        }

        private static int keyOf(int cost) {
            return (cost << ACT_BITS) + 1;
        }

        int elementsOf(int some) {
            int bits = 0;
            for (int e = front; e < MOST; e++) {
                if (ones[e] >= 0 && (some >> ones[e] & 1) != 0) bits |= 1 << e;
            }
            return bits;
        }

        int everybody() {
            return MASKS - (1 << front);
        }

        /** Whether those wanted can all come to know it: each pair can stand last. */
        boolean canBe(int want) {
            int known = start;
            for (int round = 0; round < MOST; round++) {
                for (int e = front; e < MOST; e++) {
                    if (learnsOf(e, known)) known |= 1 << e;
                }
            }
            return (known & want) == want;
        }

        private boolean learnsOf(int e, int known) {
            for (int other = front; other < MOST; other++) {
                if (other == e || (known >> other & 1) == 0) continue;
                if (Crowd.hears(kinds[other], kinds[e])) return true;
                if (Crowd.isNodded(kinds[e], kinds[other])) return true;
            }
            return false;
        }

        boolean found() {
            return best != FAR;
        }

        int cost() {
            return best >> ACT_BITS;
        }

        int length() {
            return best & (1 << ACT_BITS) - 1;
        }

        /** Seeks a plan; what was sought last, with all that matters the same, stands yet. */
        void find(int want) {
            long question = questionOf(want);
            if (question == asked) return;
            asked = question;
            best = FAR;
            settled = 0;
            if (canBe(want)) settle(want);
        }

        private long questionOf(int want) {
            long question = want * MASKS + start;
            question = question * 8 + front;
            question = question * 2 + (talkKey >> ACT_BITS);
            for (int e = 0; e < MOST; e++) {
                question = (question * 8 + kinds[e]) * 16 + (goKeys[e] >> ACT_BITS);
            }
            return question;
        }

        /** Finds the keys of all states that are no dearer than the plan. */
        private void settle(int want) {
            Arrays.fill(keys, FAR);
            heaped = 0;
            offer(start, 0);
            while (heaped > 0 && settled < STATES) {
                int s = takeLeast();
                if (keys[s] > best) break;
                settled++;
                heap[STATES - settled] = s;
                if ((s & want) == want) {
                    best = keys[s];
                    spots[s] = GOOD;
                } else if (keys[s] < best) {
                    offerAll(s);
                }
            }
        }

        private void offerAll(int s) {
            for (int act = SAY; act < GO + MOST - front; act++) {
                int then = after(s, act);
                if (then != NONE) offer(then, keys[s] + keyOfAct(s, act));
            }
        }

        /** Marks, from the dearest on, the states from which a plan's end is reached. */
        private void markGood() {
            for (int i = STATES - settled; i < STATES; i++) {
                int s = heap[i];
                if (keys[s] < best && firstGood(s) != NONE) spots[s] = GOOD;
            }
            // so that they are marked but once
            settled = 0;
        }

        private int firstGood(int s) {
            for (int act = SAY; act < GO + MOST - front; act++) {
                int then = after(s, act);
                if (then == NONE || keys[then] != keys[s] + keyOfAct(s, act)) continue;
                if (spots[then] == GOOD) return act;
            }
            return NONE;
        }

        /** Act i of the plan that was found, NONE if it has not so many. */
        int step(int i) {
            markGood();
            int s = start;
            for (int j = 0; j < length(); j++) {
                int act = firstGood(s);
                if (act == NONE) return NONE;
                if (j == i) return act < GO ? act : act - GO + GO_FROM;
                s = after(s, act);
            }
            return NONE;
        }

        private int keyOfAct(int s, int act) {
            if (act < GO) return talkKey;
            return goKeys[who[orderOf(s) * MOST + front + act - GO]];
        }

        private static int orderOf(int s) {
            return s / MASKS;
        }

        /** The state behind an act, NONE if it can not be or changes nothing. */
        private int after(int s, int act) {
            int order = orderOf(s) * MOST;
            if (act >= GO) {
                int place = front + act - GO;
                if (place >= MOST - 1) return NONE;
                return gone[order + place] * MASKS + s % MASKS;
            }
            if (front > MOST - 2) return NONE;
            int last = who[order + MOST - 1], ahead = who[order + MOST - 2];
            boolean lastKnows = (s >> last & 1) != 0, aheadKnows = (s >> ahead & 1) != 0;
            if (act == SAY) {
                boolean told = lastKnows && !aheadKnows && Crowd.hears(kinds[last], kinds[ahead]);
                return told ? s | 1 << ahead : NONE;
            }
            boolean nodded = aheadKnows && !lastKnows && Crowd.isNodded(kinds[last], kinds[ahead]);
            return nodded ? s | 1 << last : NONE;
        }

        private void layOrder(int order) {
            int left = pick(0x43210, order / 24, order * MOST);
            left = pick(left, order / 6 % 4, order * MOST + 1);
            left = pick(left, order / 2 % 3, order * MOST + 2);
            left = pick(left, order % 2, order * MOST + 3);
            pick(left, 0, order * MOST + 4);
        }

        /** Puts the nth of the digits that are left at a spot: what is left then. */
        private int pick(int left, int nth, int spot) {
            int shift = nth * 4;
            who[spot] = left >> shift & 15;
            int below = left & (1 << shift) - 1;
            return left >> shift + 4 << shift | below;
        }

        /** The order that is made when the element at a place goes to the back. */
        private int orderGone(int base, int place) {
            int rank = 0;
            for (int i = 0; i < MOST; i++) {
                int mine = whoBehind(base, place, i), smaller = 0;
                for (int j = i + 1; j < MOST; j++) {
                    if (whoBehind(base, place, j) < mine) smaller++;
                }
                rank = rank * (MOST - i) + smaller;
            }
            return rank;
        }

        private int whoBehind(int base, int place, int i) {
            if (i == MOST - 1) return who[base + place];
            return who[base + (i < place ? i : i + 1)];
        }

        private void offer(int s, int key) {
            if (key >= keys[s]) return;
            if (keys[s] == FAR) {
                hold(heaped, s);
                heaped++;
            }
            keys[s] = key;
            rise(s);
        }

        private void hold(int spot, int s) {
            heap[spot] = s;
            spots[s] = spot;
        }

        private void rise(int s) {
            int spot = spots[s];
            while (spot > 0) {
                int above = (spot - 1) / 2;
                if (keys[heap[above]] <= keys[s]) break;
                hold(spot, heap[above]);
                spot = above;
            }
            hold(spot, s);
        }

        private int takeLeast() {
            int least = heap[0];
            heaped--;
            int s = heap[heaped], spot = 0;
            while (2 * spot + 1 < heaped) {
                int below = 2 * spot + 1;
                if (below + 1 < heaped && keys[heap[below + 1]] < keys[heap[below]]) below++;
                if (keys[heap[below]] >= keys[s]) break;
                hold(spot, heap[below]);
                spot = below;
            }
            hold(spot, s);
            return least;
        }
    }

    /** All talks that fit what was seen. What all know is one number, four bits for each one. */
    private static final class Talks {
        private static final int ASKS = 4, NOTHING = 8, GOING = 9;

        private final int[] row = new int[Crowd.PEOPLE_MOST];
        private final int[] lasts = new int[SEEN_MOST];
        private final int[] aheads = new int[SEEN_MOST];
        private final boolean[] went = new boolean[SEEN_MOST];
        private final int[] kinds = new int[Crowd.PEOPLE_MOST];
        private int minutes;
        private int first;
        private int due;
        private boolean fits;

        void prepare(Crowd image, Crowd now, int[] seen, int many) {
            minutes = Math.min(many, SEEN_MOST);
            first = allFacts(image);
            due = allFacts(now);
            fits = true;
            for (int p = 0; p < Crowd.PEOPLE_MOST; p++) kinds[p] = image.kindOf(p);
            int size = image.sizeOf(0);
            for (int i = 0; i < size; i++) row[i] = image.whoIsAt(0, i);
            for (int i = 0; i < minutes; i++) {
                went[i] = seen[i] != NONE;
                if (went[i]) fits = sendBack(seen[i], size) && fits;
                lasts[i] = size > 1 ? row[size - 1] : NONE;
                aheads[i] = size > 1 ? row[size - 2] : NONE;
            }
        }

        private static int allFacts(Crowd crowd) {
            int all = 0;
            for (int p = 0; p < Crowd.PEOPLE_MOST; p++) all |= crowd.factsOf(p) << p * Crowd.FACTS;
            return all;
        }

        private boolean sendBack(int p, int size) {
            boolean met = false;
            for (int i = 0; i < size; i++) {
                met = met || row[i] == p;
                if (met) row[i] = i + 1 < size ? row[i + 1] : p;
            }
            return met;
        }

        int ways() {
            return fits ? waysFrom(this, 0, first) : 0;
        }

        int actOfFirst(int minute) {
            if (ways() == 0) return NONE;
            int all = first;
            for (int i = 0; i < minutes; i++) {
                int act = firstAct(i, all);
                if (i == minute || act == NONE) return act;
                all = after(i, act, all);
            }
            return NONE;
        }

        private int firstAct(int i, int all) {
            for (int act = 0; act <= GOING; act++) {
                int then = after(i, act, all);
                if (then != NONE && waysFrom(this, i + 1, then) > 0) return act;
            }
            return NONE;
        }

        private static int waysFrom(Talks talks, int i, int all) {
            // nobody forgets: who knows too much already never fits
            if ((all & ~talks.due) != 0) return 0;
            if (i >= talks.minutes) return all == talks.due ? 1 : 0;
            int idle = 0, sum = 0;
            for (int act = 0; act <= GOING; act++) {
                int then = talks.after(i, act, all);
                if (then == all) idle++;
                else if (then != NONE) sum += waysFrom(talks, i + 1, then);
            }
            return idle == 0 ? sum : sum + idle * waysFrom(talks, i + 1, all);
        }

        /** What all know behind an act, NONE if it can not be in that minute. */
        private int after(int i, int act, int all) {
            if (went[i]) return act == GOING ? all : NONE;
            if (act == GOING) return NONE;
            if (act == NOTHING) return all;
            int last = lasts[i], ahead = aheads[i];
            if (last < 0 || ahead < 0 || kinds[last] == Crowd.MUTE) return NONE;
            int ofLast = 1 << last * Crowd.FACTS + act % ASKS;
            int ofAhead = 1 << ahead * Crowd.FACTS + act % ASKS;
            if (act < ASKS) {
                if ((all & ofLast) == 0) return NONE;
                return Crowd.hears(kinds[last], kinds[ahead]) ? all | ofAhead : all;
            }
            boolean nodded = (all & ofAhead) != 0 && Crowd.isNodded(kinds[last], kinds[ahead]);
            return nodded ? all | ofLast : all;
        }
    }

    /** A row of cells of one lane, or nothing. */
    private static final class Sheet {
        static final int CELLS_MOST = 40;
        static final int NULL_FAULT = 1, INDEX_FAULT = 2, CAST_FAULT = 3, SIZE_FAULT = 4;
        private static final int BYTES = 0, SHORTS = 1, INTS = 2;

        int lane = NONE;
        int size;
        private final int[] cells = new int[CELLS_MOST];

        static boolean isLane(int lane) {
            return lane >= BYTES && lane <= INTS;
        }

        boolean isNothing() {
            return lane == NONE;
        }

        void renew(int newLane, int n) {
            lane = newLane;
            size = Math.max(0, Math.min(n, CELLS_MOST));
            Arrays.fill(cells, 0);
        }

        /** The fault at which a cell is met if the sheet is taken as of a lane; 0. */
        int faultOf(int asLane, int i) {
            if (isNothing()) return NULL_FAULT;
            if (lane != asLane) return CAST_FAULT;
            return i < 0 || i >= size ? INDEX_FAULT : 0;
        }

        int cellAt(int i) {
            return i >= 0 && i < size ? cells[i] : NONE;
        }

        void write(int i, int v) {
            if (i < 0 || i >= size) return;
            cells[i] = lane == BYTES ? (byte) v : lane == SHORTS ? (short) v : v;
        }
    }
}
