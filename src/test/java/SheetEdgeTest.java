/** Sheets, acts read of them, and counts: each sentence that names a boundary case (promises 32 to 36). */
public final class SheetEdgeTest {
    private static final int BAD = -1, NONE = -4;
    private static final int MIN = Integer.MIN_VALUE, MAX = Integer.MAX_VALUE;
    private static final int NULL_FAULT = 1, INDEX_FAULT = 2, CAST_FAULT = 3;
    /** The last knows fact 0, the one ahead fact 2, nobody 1 and 3. */
    private static final String TWO = "person plain 1 2;person plain 1 0;row 0 0 1;";
    private static final Sentence S = new Sentence();

    public static void main(String[] args) {
        nothingAtFirst();
        cellsOfASheet();
        tooManyCells();
        belowNoCells();
        aNewRow();
        sheetsAreFour();
        laying();
        layingBeyond();
        lowestBits();
        acts();
        noActs();
        howMany();
        oneBehindAnother();
        readBeyond();
        readOfNothing();
        readAsAnother();
        eachRefusal();
        noneIsDone();
        theFirstMet();
        wrongReads();
        tornByTheLatest();
        tornThatDidNotEnd();
        counts();
        countsOfSheets();
        S.end();
    }

    private static TailSpeaks sheeted(String text, int lane, int... cells) {
        TailSpeaks x = Due.told(text);
        x.sheet(0, lane, cells.length);
        for (int i = 0; i < cells.length; i++) x.lay(0, i, cells[i]);
        return x;
    }

    private static void nothingAtFirst() {
        S.by("or nothing (at first)");
        TailSpeaks x = Due.told(TWO);
        S.is("cells", x.count(5), NONE);
        for (int k = 0; k < 4; k++) {
            S.is("lay " + k, x.lay(k, 0, 0), -11);
            for (int lane = 0; lane < 3; lane++) {
                x.read(k, lane, 0, 0, 1);
                S.is("read " + k + " as " + lane, x.torn(), NULL_FAULT);
            }
        }
    }

    private static void cellsOfASheet() {
        S.by("with 0 to 40 CELLS");
        for (int lane = 0; lane < 3; lane++) {
            int[] sizes = {0, 1, 39, 40};
            for (int n : sizes) {
                TailSpeaks x = Due.told(TWO);
                S.is("sheet of " + n, x.sheet(0, lane, n), 1);
                S.is("cells", x.count(5), n);
                S.is("the last cell", x.lay(0, n - 1, 5), n > 0 ? 1 : -12);
                S.is("a cell more", x.lay(0, n, 5), -12);
                S.is("read the last", x.read(0, lane, 0, n - 1, 1), n > 0 ? 1 : 0);
                S.is("torn", x.torn(), n > 0 ? 0 : INDEX_FAULT);
                S.is("read a cell more", x.read(0, lane, 0, n, 1), 0);
                S.is("torn", x.torn(), INDEX_FAULT);
            }
        }
    }

    private static void tooManyCells() {
        S.by("BAD: also n above 40; -10 - 4.");
        int[] many = {41, 42, 100, MAX};
        for (int n : many) {
            TailSpeaks x = new TailSpeaks();
            S.is("sheet of " + n, x.sheet(0, 0, n), BAD);
            S.is("nothing yet", x.count(5), NONE);
            x.sheet(0, 1, 40);
            S.is("sheet of " + n, x.sheet(0, 2, n), BAD);
            S.is("as it was", x.count(5), 40);
        }
    }

    private static void belowNoCells() {
        S.by("4 SIZE (below 0)");
        int[] few = {-1, -2, -40, -41, MIN};
        for (int n : few) {
            for (int lane = 0; lane < 3; lane++) {
                TailSpeaks x = sheeted(TWO, 1, 5, 0);
                S.is("sheet of " + n, x.sheet(0, lane, n), -14);
                S.is("as it was", x.count(5), 2);
                S.is("its lane", x.read(0, 1, 0, 0, 2), 2);
                S.is("torn() is of read() alone", x.torn(), 0);
                S.is("sheet of " + n, x.sheet(3, lane, n), -14);
                S.is("nothing yet", x.lay(3, 0, 0), -11);
            }
        }
        S.by("BAD: also n above 40; -10 - 4.");
        int[] ks = {-1, 4, MIN, MAX};
        for (int k : ks) {
            S.is("k " + k, new TailSpeaks().sheet(k, 0, 1), BAD);
            S.is("k " + k + ", below 0", new TailSpeaks().sheet(k, 0, -1), BAD);
        }
        int[] lanes = {-1, 3, MIN, MAX};
        for (int lane : lanes) {
            S.is("lane " + lane, new TailSpeaks().sheet(0, lane, 1), BAD);
            S.is("lane " + lane + ", below 0", new TailSpeaks().sheet(0, lane, -1), BAD);
        }
    }

    private static void aNewRow() {
        S.by("A SHEET is a new row of CELLS 0: 1.");
        for (int lane = 0; lane < 3; lane++) {
            TailSpeaks x = Due.told("person plain 1;person plain 1 0;row 0 0 1;");
            x.sheet(1, (lane + 1) % 3, 40);
            for (int i = 0; i < 40; i++) x.lay(1, i, 9);
            S.is("again", x.sheet(1, lane, 40), 1);
            int said = 0;
            for (int i = 0; i < 40; i++) said += x.read(1, lane, 0, i, 1);
            S.is("SAY of fact 0 in each", said, 40);
            S.is("it was said", x.know(0), 3);
            S.is("fewer", x.sheet(1, lane, 2), 1);
            S.is("of that lane alone", x.read(1, (lane + 1) % 3, 0, 0, 1), 0);
            S.is("torn", x.torn(), CAST_FAULT);
            S.is("two and no more", x.read(1, lane, 0, 0, 3), 2);
            S.is("more", x.sheet(1, lane, 4), 1);
            S.is("SAY of fact 0 in each", x.read(1, lane, 0, 0, 4), 4);
        }
    }

    private static void sheetsAreFour() {
        S.by("SHEETS 0 to 3 are rows of BYTES (lane 0), SHORTS (1), INTS (2)");
        TailSpeaks x = Due.told("person plain 1;person plain 1 0 1 2 3;row 0 0 1;");
        for (int k = 0; k < 4; k++) {
            x.sheet(k, k % 3, k + 1);
            x.lay(k, k, k);
        }
        for (int k = 3; k >= 0; k--) {
            S.is("its own cell", x.read(k, k % 3, 0, k, 1), 1);
            S.is("its own fact", x.know(k), 3);
            S.is("its own size", x.lay(k, k + 1, 0), -12);
            S.is("its own lane", x.read(k, (k + 1) % 3, 0, 0, 1), 0);
        }
    }

    private static void laying() {
        S.by("CELL i of a SHEET becomes v (its lowest bits): 1.");
        for (int lane = 0; lane < 3; lane++) {
            for (int at = 0; at < 3; at++) {
                TailSpeaks x = sheeted(TWO, lane, 5, 5, 5);
                S.is("lay", x.lay(0, at, 9), 1);
                S.is("that cell alone", x.read(0, lane, 0, 0, 3), -20 - at);
                S.is("lay", x.lay(0, at, 4), 1);
                S.is("laid again", x.read(0, lane, 0, 0, 3), 3);
            }
        }
    }

    private static void layingBeyond() {
        S.by("-10 less the FAULT: NULL, INDEX.");
        TailSpeaks x = sheeted(TWO, 2, 5, 5);
        int[] far = {-1, 2, 3, 39, 40, 41, MIN, MAX};
        for (int i : far) {
            S.is("lay " + i, x.lay(0, i, 9), -12);
            S.is("lay " + i + " of nothing", x.lay(1, i, 9), -11);
        }
        S.is("lay 0 of nothing", x.lay(1, 0, 9), -11);
        S.is("as it was", x.read(0, 2, 0, 0, 2), 2);
        x.sheet(0, 2, 0);
        S.is("of no cells", x.lay(0, 0, 9), -12);
        S.by("BAD: k; -10 less the FAULT: NULL, INDEX.");
        int[] ks = {-1, 4, MIN, MAX};
        for (int k : ks) S.is("k " + k, x.lay(k, 0, 0), BAD);
        for (int k : ks) S.is("k " + k, x.lay(k, -1, 0), BAD);
        S.is("torn() is of read() alone", x.torn(), 0);
    }

    /** GO 0 is 10: by which lanes a number is 10 by its lowest bits. */
    private static void lowestBits() {
        S.by("CELL i of a SHEET becomes v (its lowest bits): 1.");
        int[] values = {10, 10 + 256, 10 - 256, 10 + 65536, 10 - 65536, 10 + 65536 * 256, MIN + 10, 10 + 128, 10 + 32768};
        boolean[][] tens = {{true, true, true}, {true, false, false}, {true, false, false}, {true, true, false},
            {true, true, false}, {true, true, false}, {true, true, false}, {false, false, false}, {true, false, false}};
        for (int i = 0; i < values.length; i++) {
            for (int lane = 0; lane < 3; lane++) {
                TailSpeaks x = sheeted(TWO, lane, 0);
                S.is("lay", x.lay(0, 0, values[i]), 1);
                S.is(values[i] + " in lane " + lane, x.read(0, lane, 0, 0, 1), tens[i][lane] ? 1 : -20);
                S.rowIs(values[i] + " in lane " + lane, x, 0, tens[i][lane] ? "10" : "01");
            }
        }
        int[] minus = {-1, 255, 65535, 128, 32768, MIN, MAX};
        for (int v : minus) {
            for (int lane = 0; lane < 3; lane++) {
                // MIN is 0, SAY 0, by its lowest bits
                boolean zero = lane == 0 && (v & 255) == 0 || lane == 1 && (v & 65535) == 0;
                S.is(v + " in lane " + lane, sheeted(TWO, lane, v).read(0, lane, 0, 0, 1), zero ? 1 : -20);
            }
        }
    }

    private static void acts() {
        S.by("(0 to 3 SAY that FACT, 4 to 7 ASK, FACT and 4, 10 and a PLACE: GO)");
        for (int lane = 0; lane < 3; lane++) {
            for (int f = 0; f < 4; f++) {
                TailSpeaks x = sheeted("person plain 1;person plain 1 0 1 2 3;row 1 0 1;", lane, f);
                S.is("SAY " + f, x.read(0, lane, 1, 0, 1), 1);
                S.is("SAY " + f, x.one(0, 2), 1 << f);
                x = sheeted("person plain 1 0 1 2 3;person plain 1;row 1 0 1;", lane, 4 + f);
                S.is("ASK " + f, x.read(0, lane, 1, 0, 1), 1);
                S.is("ASK " + f, x.one(1, 2), 1 << f);
                S.is("hour", x.rule(1), 1);
            }
            for (int i = 0; i < 6; i++) {
                TailSpeaks x = sheeted(House.SIX + "row 1 0 1 2 3 4 5;", lane, 10 + i);
                S.is("GO " + i, x.read(0, lane, 1, 0, 1), 1);
                S.is("GO " + i, x.at(1, 5), i);
                S.is("the quick take no minute", x.rule(1), i == 1 ? 0 : 1);
            }
        }
    }

    private static void noActs() {
        S.by("-20 less i: ACT i is none, or is refused (in whichever way): then none is done; the first met.");
        int[] none = {-1, -2, -10, 8, 9, 16, 17, 20, 100, 127, MIN, MAX};
        for (int v : none) {
            TailSpeaks x = sheeted(House.SIX + "row 0 0 1 2 3 4 5;", 2, v);
            S.is("cell " + v, x.read(0, 2, 0, 0, 1), -20);
            S.rowIs("cell " + v, x, 0, "012345");
            S.is("hour", x.rule(1), 0);
        }
        S.is("place 1 of one", sheeted("person plain 1;row 0 0;", 0, 11).read(0, 0, 0, 0, 1), -20);
        S.is("place 0 of one", sheeted("person plain 1;row 0 0;", 0, 10).read(0, 0, 0, 0, 1), 1);
        S.is("place 0 of none", sheeted("person plain 1;row 0 0;", 0, 10).read(0, 0, 1, 0, 1), -20);
    }

    private static void howMany() {
        S.by("n (0 to 12) ACTS in a ROW are read of a SHEET taken as of a lane, from CELL f on");
        int[] cells = new int[40];
        java.util.Arrays.fill(cells, 10);
        for (int n = 0; n <= 12; n++) {
            for (int lane = 0; lane < 3; lane++) {
                TailSpeaks x = sheeted(TWO, lane, cells);
                S.is("read " + n, x.read(0, lane, 0, 0, n), n);
                S.is("hour", x.rule(1), n);
                S.is("torn", x.torn(), 0);
                S.is("to the last cell", x.read(0, lane, 0, 40 - n, n), n);
                S.is("torn", x.torn(), 0);
            }
        }
        TailSpeaks x = sheeted(TWO, 0, 9, 10, 4, 5, 9);
        S.is("from cell 1 on", x.read(0, 0, 0, 1, 3), 3);
        S.rowIs("from cell 1 on", x, 0, "10");
        S.is("from cell 0 on", x.read(0, 0, 0, 0, 3), -20);
        S.is("from cell 2 on", x.read(0, 0, 0, 2, 3), -22);
        S.is("none of what is there", x.read(0, 0, 0, 4, 0), 0);
        S.is("none, far off", x.read(0, 0, 0, MAX, 0), 0);
    }

    private static void oneBehindAnother() {
        S.by(", one behind another as by say(), ask(), go(): how many were done.");
        int[] cells = {0, 10, 6, 11, 4, 5, 10, 10, 2, 7, 11, 0};
        TailSpeaks x = sheeted(TWO, 1, cells), y = Due.told(TWO);
        for (int cell : cells) {
            int got = cell < 4 ? y.say(0, cell) : cell < 8 ? y.ask(0, cell - 4) : y.go(0, cell - 10);
            S.is("act " + cell, got >= 0 ? 1 : 0, 1);
        }
        S.is("all twelve", x.read(0, 1, 0, 0, 12), 12);
        S.same("read and done", House.textOf(x), House.textOf(y));
        S.is("hour", x.rule(1), y.rule(1));
    }

    private static void readBeyond() {
        S.by("2 INDEX, 3 CAST (another lane)");
        S.is("a cell ahead of all", sheeted(TWO, 0, 10).read(0, 0, 0, -1, 1), 0);
        S.is("a cell behind all", sheeted(TWO, 0, 10).read(0, 0, 0, 1, 1), 0);
        S.is("lay ahead of all", sheeted(TWO, 0, 10).lay(0, -1, 0), -12);
        S.is("lay behind all", sheeted(TWO, 0, 10).lay(0, 1, 0), -12);
        S.by("What the machine refuses: those ahead are done (its FAULT is asked by torn()).");
        for (int cells = 0; cells < 4; cells++) {
            int[] goes = new int[cells];
            java.util.Arrays.fill(goes, 10);
            TailSpeaks x = sheeted(TWO, 1, goes);
            S.is("12 of " + cells, x.read(0, 1, 0, 0, 12), cells);
            S.is("torn", x.torn(), INDEX_FAULT);
            S.is("those ahead are done", x.rule(1), cells);
            S.is("as many as there are", x.read(0, 1, 0, 0, cells), cells);
            S.is("torn", x.torn(), 0);
        }
        TailSpeaks x = sheeted(TWO, 1, 10, 10);
        int[] far = {-1, -2, -12, 2, 3, 40, 41, MIN, MIN + 1, MAX, MAX - 1, MAX - 11};
        for (int f : far) {
            S.is("12 from " + f, x.read(0, 1, 0, f, 12), 0);
            S.is("torn", x.torn(), INDEX_FAULT);
            S.is("none is done", x.rule(1), 0);
        }
        S.is("12 from 1", x.read(0, 1, 0, 1, 12), 1);
        S.is("done", x.rule(1), 1);
    }

    private static void readOfNothing() {
        S.by("1 NULL (nothing)");
        TailSpeaks x = Due.told(TWO);
        for (int lane = 0; lane < 3; lane++) {
            int[] from = {0, -1, 40, MAX};
            for (int f : from) {
                S.is("read", x.read(2, lane, 0, f, 12), 0);
                S.is("torn", x.torn(), NULL_FAULT);
            }
        }
        S.is("none is done", x.rule(1), 0);
        S.is("none is read", x.read(2, 0, 0, 0, 0), 0);
        S.is("so nothing is refused", x.torn(), 0);
    }

    private static void readAsAnother() {
        S.by("3 CAST (another lane)");
        for (int lane = 0; lane < 3; lane++) {
            for (int as = 0; as < 3; as++) {
                TailSpeaks x = sheeted(TWO, lane, 10, 9);
                S.is(lane + " as " + as, x.read(0, as, 0, 0, 1), as == lane ? 1 : 0);
                S.is("torn", x.torn(), as == lane ? 0 : CAST_FAULT);
                S.is("done", x.rule(1), as == lane ? 1 : 0);
                if (as == lane) continue;
                S.is("no act is met in it", x.read(0, as, 0, 1, 1), 0);
                S.is("torn", x.torn(), CAST_FAULT);
                S.is("ahead of the index", x.read(0, as, 0, 2, 1), 0);
                S.is("torn", x.torn(), CAST_FAULT);
                x.sheet(0, lane, 0);
                S.is("of no cells", x.read(0, as, 0, 0, 1), 0);
                S.is("torn", x.torn(), CAST_FAULT);
            }
        }
    }

    private static void eachRefusal() {
        S.by("-20 less i: ACT i is none, or is refused (in whichever way): then none is done; the first met.");
        S.is("SAY: he does not know it", sheeted(TWO, 0, 5, 1).read(0, 0, 0, 0, 2), -21);
        S.is("SAY: no one ahead", sheeted("person plain 1 0;row 0 0;", 0, 10, 0).read(0, 0, 0, 0, 2), -21);
        S.is("ASK: no one ahead", sheeted("person plain 1 0;row 0 0;", 0, 10, 4).read(0, 0, 0, 0, 2), -21);
        S.is("SAY: nobody", sheeted(TWO, 0, 0).read(0, 0, 1, 0, 1), -20);
        S.is("ASK: nobody", sheeted(TWO, 0, 4).read(0, 0, 1, 0, 1), -20);
        S.is("SAY: mute", sheeted("person mute 1 0;person plain 1 0;row 0 0 1;", 0, 0, 10, 0).read(0, 0, 0, 0, 3), -22);
        S.is("ASK: mute", sheeted("person mute 1 0;person plain 1 0;row 0 0 1;", 0, 4, 10, 4).read(0, 0, 0, 0, 3), -22);
        S.is("GO: no such place", sheeted(TWO, 0, 11, 12).read(0, 0, 0, 0, 2), -21);
        for (int v = 0; v < 12; v++) S.is("a ring: " + v, sheeted(TWO + "ring 0;", 0, v).read(0, 0, 0, 0, 1), -20);
        S.is("what nothing comes of is no refusal", sheeted(TWO, 0, 5, 5, 4).read(0, 0, 0, 0, 3), 3);
    }

    private static void noneIsDone() {
        S.by("then none is done");
        // all that an act can change: who knows, the order, the hour; then what can not be
        int[] cells = {0, 6, 10, 10, 11, 4, 5, 10, 6, 0, 2, 9};
        for (int i = 0; i < 12; i++) {
            int[] some = cells.clone();
            some[i] = 8;
            TailSpeaks x = sheeted(TWO, 2, some);
            S.is("the act " + i, x.read(0, 2, 0, 0, 12), -20 - i);
            S.same("the act " + i + ": all", House.look(x), House.look(sheeted(TWO, 2, some)));
        }
        TailSpeaks x = sheeted(TWO, 2, cells);
        S.is("eleven are done", x.read(0, 2, 0, 0, 11), 11);
        S.is("know 0", x.know(0), 3);
        S.is("know 2", x.know(2), 3);
        S.is("hour", x.rule(1), 11);
        // what is told by one act can be said by the next
        x = sheeted("person plain 1;person plain 1;person plain 1 3;row 0 0 1 2;", 0, 3, 11, 3);
        S.is("each behind another", x.read(0, 0, 0, 0, 3), 3);
        S.is("hour", x.rule(1), 3);
    }

    private static void theFirstMet() {
        S.by("the first met.");
        TailSpeaks x = sheeted(TWO, 0, 10, 9, 8);
        S.is("of two that are none", x.read(0, 0, 0, 0, 3), -21);
        S.is("ahead of the index", x.read(0, 0, 0, 0, 12), -21);
        S.is("ahead of the index", x.read(0, 0, 0, 2, 2), -20);
        S.is("none is done", x.rule(1), 0);
        S.is("the index is met first", x.read(0, 0, 0, -1, 3), 0);
        S.is("torn", x.torn(), INDEX_FAULT);
        x = sheeted(TWO, 0, 9, 10);
        S.is("the index is met behind one act", x.read(0, 0, 0, 1, 3), 1);
        S.is("torn", x.torn(), INDEX_FAULT);
    }

    private static void wrongReads() {
        S.by("BAD: k, lane, r, n");
        TailSpeaks x = sheeted(TWO, 0, 10, 10);
        int[] ks = {-1, 4, MIN, MAX}, lanes = {-1, 3, MIN, MAX}, rows = {-1, 2, MIN, MAX}, ns = {-1, 13, MIN, MAX};
        for (int k : ks) S.is("k " + k, x.read(k, 0, 0, 0, 1), BAD);
        for (int lane : lanes) S.is("lane " + lane, x.read(0, lane, 0, 0, 1), BAD);
        for (int r : rows) S.is("r " + r, x.read(0, 0, r, 0, 1), BAD);
        for (int n : ns) S.is("n " + n, x.read(0, 0, 0, 0, n), BAD);
        for (int k : ks) S.is("k " + k + ", none", x.read(k, 0, 0, 0, 0), BAD);
        for (int lane : lanes) S.is("lane " + lane + ", of nothing", x.read(1, lane, 0, 0, 1), BAD);
        for (int r : rows) S.is("r " + r + ", of nothing", x.read(1, 0, r, 0, 1), BAD);
        for (int n : ns) S.is("n " + n + ", of nothing", x.read(1, 0, 0, 0, n), BAD);
        S.is("none is done", x.rule(1), 0);
        S.is("torn", x.torn(), 0);
    }

    private static void tornByTheLatest() {
        S.by("The FAULT of the latest read() that came to an end; 0.");
        TailSpeaks x = sheeted(TWO, 0, 10, 9);
        x.read(1, 0, 0, 0, 1);
        S.is("nothing", x.torn(), NULL_FAULT);
        S.is("asked again", x.torn(), NULL_FAULT);
        x.read(0, 1, 0, 0, 1);
        S.is("another lane", x.torn(), CAST_FAULT);
        x.read(0, 0, 0, 2, 1);
        S.is("index", x.torn(), INDEX_FAULT);
        x.read(0, 0, 0, 0, 1);
        S.is("all were done", x.torn(), 0);
        x.read(0, 0, 0, 2, 1);
        x.read(0, 0, 0, 0, 0);
        S.is("none was to be done", x.torn(), 0);
    }

    private static void tornThatDidNotEnd() {
        S.by("The FAULT of the latest read() that came to an end; 0.");
        for (int fault = 0; fault < 4; fault++) {
            TailSpeaks x = sheeted(TWO, 0, 10, 9);
            x.read(fault == 1 ? 1 : 0, fault == 3 ? 1 : 0, 0, fault == 2 ? 2 : 0, 1);
            S.is("torn", x.torn(), fault);
            S.is("an act that is none", x.read(0, 0, 0, 0, 2), -21);
            S.is("torn yet", x.torn(), fault);
            S.is("BAD", x.read(0, 0, 0, 0, 13), BAD);
            S.is("torn yet", x.torn(), fault);
            x.lay(0, 2, 0);
            x.lay(1, 0, 0);
            x.sheet(0, 0, -1);
            S.is("torn yet", x.torn(), fault);
            x.sheet(1, 0, 1);
            Due.tell(x, "ring 2;");
            Due.tell(x, TWO);
            x.keep(0);
            x.back(0);
            S.is("torn yet", x.torn(), fault);
        }
    }

    private static void counts() {
        S.by("How many: 0 ONES in ROWS, 1 that KNOW nothing, 2 SEEN, 3 IMAGES, 4 bytes on THE TAPE, 5 CELLS of SHEET 0 (NONE: nothing).");
        TailSpeaks x = Due.told(House.SIX + "row 0 0 1 2;row 1 3 4 5;");
        int[] first = {6, 2, 0, 0, 0, NONE};
        for (int w = 0; w < 6; w++) S.is("count " + w, x.count(w), first[w]);
        for (int i = 5; i >= 0; i--) {
            x.serve(i % 2);
            S.is("in rows", x.count(0), i);
        }
        S.is("in no row, but they know nothing", x.count(1), 2);
        for (int p = 0; p < 6; p++) for (int f = 0; f < 4; f++) x.teach(p, f, false);
        S.is("all know nothing", x.count(1), 6);
        for (int p = 0; p < 6; p++) {
            x.teach(p, p % 4, true);
            S.is("one fewer", x.count(1), 5 - p);
        }
        for (int i = 1; i <= 5; i++) {
            x.saw(NONE);
            S.is("seen", x.count(2), i);
        }
        x.keep(1);
        S.is("images", x.count(3), 1);
        x.keep(0);
        S.is("images", x.count(3), 2);
        x.keep(0);
        S.is("images", x.count(3), 2);
        for (int i = 1; i <= 40; i++) x.feed(0);
        S.is("tape", x.count(4), 320);
        x.end(1);
        S.is("tape", x.count(4), 1);
    }

    private static void countsOfSheets() {
        S.by("5 CELLS of SHEET 0 (NONE: nothing)");
        TailSpeaks x = new TailSpeaks();
        for (int k = 1; k < 4; k++) {
            x.sheet(k, 0, 7);
            S.is("not of sheet " + k, x.count(5), NONE);
        }
        int[] sizes = {0, 40, 1};
        for (int n : sizes) {
            x.sheet(0, 2, n);
            S.is("cells", x.count(5), n);
        }
        S.by("5 CELLS of SHEET 0 (NONE: nothing). BAD.");
        int[] whats = {-1, 6, 7, MIN, MAX};
        for (int what : whats) S.is("count " + what, x.count(what), BAD);
    }
}
