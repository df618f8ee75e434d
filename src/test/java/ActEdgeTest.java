/** What there is, acts and rings: each sentence that names a boundary case (promises 6 to 22). */
public final class ActEdgeTest {
    private static final int STATE = -2, NONE = -4;
    private static final int MIN = Integer.MIN_VALUE, MAX = Integer.MAX_VALUE;
    private static final String SIX = House.SIX;
    private static final int QUICK = 1, LIAR = 2, DEAF = 3, MUTE = 4;
    private static final Sentence S = new Sentence();

    public static void main(String[] args) {
        rules();
        ones();
        places();
        knowing();
        saying();
        sayingInRows();
        asking();
        askingInRows();
        going();
        theQuick();
        theLiar();
        theDeaf();
        theMute();
        theLastAndTheOneAhead();
        changing();
        serving();
        coming();
        splitting();
        joining();
        ringing();
        cutting();
        lots();
        lotsOfBits();
        teaching();
        pricing();
        S.end();
    }

    private static void rules() {
        S.by("0 PEOPLE, 1 THE HOUR, 2 and 3 how many are in ROW 0, 1, 4 and 5 whether it is a RING.");
        int[][] want = {{6, 0, 6, 0, 0, 0}, {6, 0, 0, 6, 0, 1}, {6, 0, 1, 5, 1, 0}, {6, 0, 0, 0, 1, 1}};
        String[] rows = {"row 0 0 1 2 3 4 5;", "row 1 0 1 2 3 4 5;ring 1;", "row 0 5;row 1 4 3 2 1 0;ring 0;", "ring 0;ring 1;"};
        for (int i = 0; i < rows.length; i++) {
            TailSpeaks x = Due.told(SIX + rows[i]);
            for (int w = 0; w < 6; w++) S.is(rows[i] + " rule " + w, x.rule(w), want[i][w]);
        }
        TailSpeaks x = Due.told("person plain 1;row 1 0;");
        for (int i = 1; i <= 100; i++) {
            x.go(1, 0);
            S.is("hour", x.rule(1), i);
        }
    }

    private static void ones() {
        S.by("Of a ONE: 0 KIND, 1 PRICE, 2 FACTS that he KNOWS (bits), 3 his ROW, 4 his PLACE (NONE: in none).");
        TailSpeaks x = Due.told(SIX + "row 0 5;row 1 4 3;");
        int[][] want = {{0, 3, 1, NONE, NONE}, {1, 5, 0, NONE, NONE}, {2, 1, 2, NONE, NONE}, {3, 9, 4, 1, 1}, {4, 4, 9, 1, 0},
            {0, 0, 0, 0, 0}};
        for (int p = 0; p < 6; p++) for (int w = 0; w < 5; w++) S.is("one " + p + " " + w, x.one(p, w), want[p][w]);
        x.serve(0);
        for (int w = 3; w < 5; w++) S.is("served", x.one(5, w), NONE);
        x.come(5, 1);
        S.is("his row", x.one(5, 3), 1);
        S.is("his place", x.one(5, 4), 2);
        x.ring(1);
        S.is("in a ring", x.one(5, 4), 2);
        x.cut(1, 1);
        S.rowIs("a cut", x, 1, "543");
        for (int p = 3; p < 6; p++) S.is("behind a cut", x.one(p, 4), 5 - p);
    }

    private static void places() {
        S.by("The ONE at a PLACE of a ROW.");
        for (int r = 0; r < 2; r++) {
            TailSpeaks x = Due.told(SIX + "row " + r + " 5 3 1 0 2 4;");
            int[] want = {5, 3, 1, 0, 2, 4};
            for (int i = 0; i < 6; i++) S.is("at " + i, x.at(r, i), want[i]);
            x.ring(r);
            for (int i = 0; i < 6; i++) S.is("at " + i + " of a ring", x.at(r, i), want[i]);
        }
    }

    private static void knowing() {
        S.by("ONES who KNOW a FACT (bits).");
        TailSpeaks x = Due.told(SIX);
        int[] want = {17, 4, 8, 16};
        for (int f = 0; f < 4; f++) S.is("know " + f, x.know(f), want[f]);
        for (int p = 0; p < 6; p++) x.teach(p, 3, true);
        S.is("all", x.know(3), 63);
        S.is("the others", x.know(2), 8);
        for (int p = 0; p < 6; p++) x.teach(p, 3, false);
        S.is("none", x.know(3), 0);
    }

    private static TailSpeaks two(int ahead, int last, String knowing) {
        return Due.told("person " + House.KINDS[ahead] + " 1" + (knowing.contains("a") ? " 3;" : ";")
            + "person " + House.KINDS[last] + " 1" + (knowing.contains("l") ? " 3;" : ";") + "row 1 0 1;");
    }

    private static void saying() {
        for (int ahead = 0; ahead < 5; ahead++) {
            for (int last = 0; last < 5; last++) {
                String call = House.KINDS[last] + " says to " + House.KINDS[ahead];
                boolean comes = last != LIAR && ahead != DEAF;
                S.by("THE ONE AHEAD KNOWS it then (not by a liar, not a deaf one).");
                TailSpeaks x = two(ahead, last, "l");
                S.is(call, x.say(1, 3), last == MUTE ? STATE : comes ? 1 : 0);
                S.is(call + ": he knows", x.one(0, 2), comes && last != MUTE ? 8 : 0);
                S.is(call + ": the last knows", x.one(1, 2), 8);
                S.by("Each takes a MINUTE (but of the quick)");
                S.is(call + ": the hour", x.rule(1), last == MUTE ? 0 : 1);
                S.by("SAY: whether THE ONE AHEAD came to KNOW it by that.");
                x = two(ahead, last, "al");
                S.is(call + " who knows it", x.say(1, 3), last == MUTE ? STATE : 0);
                S.is(call + " who knows it: he knows", x.one(0, 2), 8);
                S.is(call + " who knows it: the hour", x.rule(1), last == MUTE ? 0 : 1);
                S.by("STATE: a RING, no ONE AHEAD, THE LAST is mute; NONE: he does not KNOW it.");
                S.is(call + " what he does not know", two(ahead, last, "a").say(1, 3), last == MUTE ? STATE : NONE);
                S.is(call + " what none knows", two(ahead, last, "").say(1, 3), last == MUTE ? STATE : NONE);
            }
        }
    }

    private static void sayingInRows() {
        S.by("SAY f: THE LAST, who KNOWS FACT f and is not mute, says it");
        for (int f = 0; f < 4; f++) {
            TailSpeaks x = Due.told("person plain 0;person plain 0;person plain 0 0 1 2 3;person mute 0 0 1 2 3;row 0 3 0 1 2;");
            S.is("say " + f, x.say(0, f), 1);
            S.is("the one ahead alone, that fact alone", x.one(1, 2), 1 << f);
            S.is("not who is farther ahead", x.one(0, 2), 0);
            S.is("again", x.say(0, f), 0);
            S.is("hour", x.rule(1), 2);
        }
        TailSpeaks x = Due.told(SIX + "row 1 5 1 2 3 4 0;");
        x.teach(4, 0, false);
        S.is("the last of six", x.say(1, 0), 1);
        S.is("to the mute ahead", x.one(4, 2), 9);
    }

    private static void asking() {
        for (int ahead = 0; ahead < 5; ahead++) {
            for (int last = 0; last < 5; last++) {
                String call = House.KINDS[last] + " asks " + House.KINDS[ahead];
                boolean comes = last != MUTE && ahead != LIAR;
                S.by("if THE ONE AHEAD KNOWS it, and is no liar, he nods, and THE LAST KNOWS it then (a deaf one, too).");
                TailSpeaks x = two(ahead, last, "a");
                S.is(call, x.ask(1, 3), last == MUTE ? STATE : comes ? 1 : 0);
                S.is(call + ": he knows", x.one(1, 2), comes ? 8 : 0);
                S.by("Each takes a MINUTE (but of the quick)");
                S.is(call + ": the hour", x.rule(1), last == MUTE ? 0 : 1);
                S.by("ASK: whether THE LAST came to KNOW it by that.");
                S.is(call + ", knowing it", two(ahead, last, "al").ask(1, 3), last == MUTE ? STATE : 0);
                x = two(ahead, last, "l");
                S.is(call + " who does not know it", x.ask(1, 3), last == MUTE ? STATE : 0);
                S.is(call + ": he comes to know nothing", x.one(0, 2), 0);
                S.is(call + ": the last knows yet", x.one(1, 2), 8);
                x = two(ahead, last, "");
                S.is(call + " what none knows", x.ask(1, 3), last == MUTE ? STATE : 0);
                S.is(call + " what none knows: the hour", x.rule(1), last == MUTE ? 0 : 1);
            }
        }
    }

    private static void askingInRows() {
        S.by("ASK f: THE LAST, who is not mute, asks FACT f");
        for (int f = 0; f < 4; f++) {
            TailSpeaks x = Due.told("person plain 0;person plain 0;person plain 0 0 1 2 3;person mute 0 0 1 2 3;row 0 2 3 0 1;");
            S.is("who is farther ahead does not nod", x.ask(0, f), 0);
            x.go(0, 2);
            x.go(0, 1);
            x.go(0, 1);
            S.rowIs("go", x, 0, "2031");
            S.is("ask " + f, x.ask(0, f), 1);
            S.is("the last alone, that fact alone", x.one(1, 2), 1 << f);
            S.is("not another", x.one(0, 2), 0);
        }
        TailSpeaks x = Due.told(SIX + "row 1 5 1 2 3 0 4;");
        S.is("a mute last of six", x.ask(1, 0), STATE);
        x.go(1, 4);
        S.is("the last of six", x.ask(1, 3), 1);
        S.is("by a mute's nod", x.one(0, 2), 9);
    }

    private static void going() {
        S.by("the ONE at PLACE i goes to the back (those behind him move up; THE LAST may, too).");
        String[] want = {"123450", "023451", "013452", "012453", "012354", "012345"};
        for (int r = 0; r < 2; r++) {
            for (int i = 0; i < 6; i++) {
                TailSpeaks x = Due.told(SIX + "row " + r + " 0 1 2 3 4 5;");
                S.is("go " + i, x.go(r, i), i);
                S.rowIs("go " + i, x, r, want[i]);
                S.is("hour", x.rule(1), i == QUICK ? 0 : 1);
                S.is("the other row", x.rule(3 - r), 0);
            }
        }
        TailSpeaks x = Due.told(SIX + "row 0 4;row 1 3 2;");
        S.is("alone", x.go(0, 0), 4);
        S.is("hour", x.rule(1), 1);
        S.rowIs("the other row", x, 1, "32");
    }

    private static void theQuick() {
        S.by("1 quick: his going to the back takes no MINUTE");
        TailSpeaks x = Due.told(SIX + "row 0 1 0;");
        S.is("the quick", x.go(0, 0), 1);
        S.is("the quick as the last", x.go(0, 1), 1);
        S.is("hour", x.rule(1), 0);
        S.is("another", x.go(0, 0), 0);
        S.is("hour", x.rule(1), 1);
        S.is("he says nothing that he does not know", x.ask(0, 0), 0);
        x.go(0, 0);
        S.is("he asks", x.ask(0, 0), 1);
        S.is("what he asks takes a minute", x.rule(1), 3);
        S.is("he says", x.say(0, 0), 0);
        S.is("what he says takes a minute", x.rule(1), 4);
        S.is("he changes rows", x.change(0), 1);
        S.is("in a minute", x.rule(1), 5);
        S.is("he is served", x.serve(1), 1);
        S.is("in a minute", x.rule(1), 6);
        S.is("he comes", x.come(1, 0), 1);
        S.is("in a minute", x.rule(1), 7);
    }

    private static void theLiar() {
        S.by("2 liar: nobody comes to KNOW anything by him");
        TailSpeaks x = Due.told("person liar 1 0 1;person plain 1 2;person plain 1;row 0 2 1 0;");
        S.is("he says it in vain", x.say(0, 0), 0);
        x.go(0, 1);
        S.is("he does not nod", x.ask(0, 0), 0);
        S.is("nobody knows it by him", x.know(0) | x.know(1), 1);
        S.is("none can plan it", x.plan(0, 0, 2, 0, 0), NONE);
        S.is("he is told", x.say(0, 2), 1);
        x.go(0, 1);
        S.is("not even what others know", x.say(0, 2), 0);
        S.is("he asks", x.ask(0, 2), 0);
        S.is("he knows it", x.one(0, 2), 7);
    }

    private static void theDeaf() {
        S.by("3 deaf: he comes to KNOW nothing by what is said to him");
        TailSpeaks x = Due.told("person deaf 1;person plain 1 0;row 0 0 1;");
        S.is("it is said to him", x.say(0, 0), 0);
        S.is("in vain, in a minute", x.rule(1), 1);
        S.is("he knows nothing", x.one(0, 2), 0);
        x.go(0, 0);
        S.is("he asks", x.ask(0, 0), 1);
        S.is("he knows it", x.one(0, 2), 1);
        x.teach(1, 0, false);
        S.is("and says it", x.say(0, 0), 1);
    }

    private static void theMute() {
        S.by("4 mute: he can say nothing, ask nothing (but nod).");
        TailSpeaks x = Due.told("person mute 1 0;person plain 1 1;row 0 1 0;");
        for (int f = 0; f < 4; f++) {
            S.is("say " + f, x.say(0, f), STATE);
            S.is("ask " + f, x.ask(0, f), STATE);
        }
        S.is("no minute", x.rule(1), 0);
        S.is("he goes", x.go(0, 0), 1);
        S.is("he nods", x.ask(0, 0), 1);
        S.is("he is told", x.say(0, 1), 1);
        S.is("he knows it", x.one(0, 2), 3);
    }

    private static void theLastAndTheOneAhead() {
        S.by("ACTS in a ROW that is no RING; THE LAST is at its greatest PLACE, THE ONE AHEAD next to him.");
        for (int many = 2; many <= 6; many++) {
            StringBuilder row = new StringBuilder("row 0");
            for (int p = 0; p < many; p++) row.append(' ').append(p);
            StringBuilder people = new StringBuilder();
            for (int p = 0; p < many; p++) people.append("person plain 1").append(p == many - 1 ? " 1;" : ";");
            TailSpeaks x = Due.told(people.toString() + row + ";");
            S.is("the last of " + many + " says it", x.say(0, 1), 1);
            S.is("the one ahead knows it", x.know(1), 3 << many - 2);
            x.ring(0);
            S.is("in a ring", x.say(0, 1), STATE);
            S.is("in a ring", x.ask(0, 1), STATE);
            S.is("in a ring", x.go(0, 0), STATE);
            S.is("no minute", x.rule(1), 1);
            x.cut(0, 0);
            S.is("the last behind a cut", x.ask(0, 1), many == 2 ? 0 : 1);
        }
    }

    private static void changing() {
        S.by("THE LAST of a ROW goes to the back of the other one, in a MINUTE: who.");
        TailSpeaks x = Due.told(SIX + "row 0 0 2 3 4 5;row 1 1;");
        int[] who = {5, 4, 3, 2, 0};
        for (int i = 0; i < 5; i++) {
            S.is("change", x.change(0), who[i]);
            S.is("hour", x.rule(1), i + 1);
            S.is("row 0", x.rule(2), 4 - i);
        }
        S.rowIs("all six", x, 1, "154320");
        S.is("row and place", x.one(0, 3) * 10 + x.one(0, 4), 15);
        S.is("nobody is there", x.change(0), NONE);
        S.is("back", x.change(1), 0);
        S.rowIs("to an empty one", x, 0, "0");
    }

    private static void serving() {
        S.by("The ONE at the front of a ROW is served, in a MINUTE, and is in no ROW then: who.");
        for (int r = 0; r < 2; r++) {
            TailSpeaks x = Due.told(SIX + "row " + r + " 5 1 4 0 3 2;ring " + (1 - r) + ";");
            int[] who = {5, 1, 4, 0, 3, 2};
            for (int i = 0; i < 6; i++) {
                S.is("serve", x.serve(r), who[i]);
                S.is("hour", x.rule(1), i + 1);
                S.is("his row", x.one(who[i], 3), NONE);
                S.is("who are left", x.rule(2 + r), 5 - i);
                S.is("who is at the front", x.at(r, 0), i < 5 ? who[i + 1] : -1);
            }
            S.is("nobody is there", x.serve(r), NONE);
            S.is("all are yet", x.rule(0), 6);
            S.is("what he knows stays", x.one(4, 2), 9);
        }
    }

    private static void coming() {
        S.by("A ONE who is in no ROW comes to the back of one, in a MINUTE: his PLACE.");
        for (int r = 0; r < 2; r++) {
            TailSpeaks x = Due.told(SIX + "ring " + (1 - r) + ";");
            for (int i = 0; i < 6; i++) {
                S.is("come", x.come(5 - i, r), i);
                S.is("hour", x.rule(1), i + 1);
            }
            S.rowIs("six", x, r, "543210");
        }
        S.by("STATE: he is in one, it is a RING.");
        TailSpeaks x = Due.told(SIX + "row 0 0;row 1 1;");
        S.is("in that one", x.come(0, 0), STATE);
        S.is("in the other", x.come(0, 1), STATE);
        x.ring(0);
        S.is("a ring", x.come(2, 0), STATE);
        S.is("the other is none", x.come(2, 1), 1);
        S.is("he is in a ring", x.come(0, 1), STATE);
    }

    private static void splitting() {
        S.by("those from PLACE i on (1 or more, somebody there) are ROW 1: how many these are.");
        for (int i = 1; i < 6; i++) {
            TailSpeaks x = Due.told(SIX + "row 0 5 4 3 2 1 0;");
            S.is("split " + i, x.split(i), 6 - i);
            S.rowIs("split " + i, x, 0, "543210".substring(0, i));
            S.rowIs("split " + i, x, 1, "543210".substring(i));
            S.is("no minute", x.rule(1), 0);
            S.is("somebody is in row 1", x.split(1), i > 1 ? STATE : -1);
        }
    }

    private static void joining() {
        S.by("ROW 1 comes behind ROW 0 (and is empty): how many are in that.");
        String[] rows = {"", "row 0 3;", "row 1 3 4;", "row 0 5 4 3;row 1 2 1 0;", "row 0 0;row 1 1 2 3 4 5;"};
        String[] want = {"", "3", "34", "543210", "012345"};
        for (int i = 0; i < rows.length; i++) {
            TailSpeaks x = Due.told(SIX + rows[i]);
            S.is("join of " + rows[i], x.join(), want[i].length());
            S.rowIs("join of " + rows[i], x, 0, want[i]);
            S.rowIs("join of " + rows[i], x, 1, "");
            S.is("no minute", x.rule(1), 0);
            S.is("again", x.join(), want[i].length());
        }
        S.is("of nobody", new TailSpeaks().join(), 0);
    }

    private static void ringing() {
        S.by("A ROW becomes a RING: 1.");
        String[] rows = {"", "row 0 4;", "row 0 5 4 3 2 1 0;"};
        for (String row : rows) {
            TailSpeaks x = Due.told(SIX + row);
            String was = House.row(x, 0);
            S.is("ring", x.ring(0), 1);
            S.is("it is one", x.rule(4), 1);
            S.is("the other is none", x.rule(5), 0);
            S.rowIs("ring", x, 0, was);
            S.is("no minute", x.rule(1), 0);
            S.is("the other", x.ring(1), 1);
            for (int r = 0; r < 2; r++) S.is("it is one", x.ring(r), STATE);
        }
    }

    private static void cutting() {
        S.by("A CUT of a RING at PLACE i makes it a ROW whose LAST is the ONE there (those behind him come to the front, in their order).");
        for (int many = 1; many <= 6; many++) {
            String all = "524031".substring(0, many);
            for (int i = 0; i < many; i++) {
                TailSpeaks x = Due.told(SIX + "row 1" + all.replaceAll("(.)", " $1") + ";ring 1;ring 0;");
                S.is("cut at " + i + " of " + many, x.cut(1, i), all.charAt(i) - '0');
                S.rowIs("cut at " + i, x, 1, all.substring(i + 1) + all.substring(0, i + 1));
                S.is("it is no ring", x.rule(5), 0);
                S.is("the other is one yet", x.rule(4), 1);
                S.is("no minute", x.rule(1), 0);
            }
        }
    }

    private static void lots() {
        S.by("A LOT by a seed: the CUT at the PLACE that bits 16 to 30 of seed times 1103515245 and 12345 are, modulo how many there are.");
        int[] seeds = {0, 1, 2, 3, 7, 100, 12345, 65535, 65536, MAX, MAX - 1, MIN, MIN + 1, -1, -2, -100};
        for (int many = 1; many <= 6; many++) {
            String all = "524031".substring(0, many);
            for (int seed : seeds) {
                TailSpeaks x = Due.told(SIX + "row 0" + all.replaceAll("(.)", " $1") + ";ring 0;");
                int i = placeByLot(seed, many);
                S.is("lot of " + seed + " of " + many, x.lot(0, seed), all.charAt(i) - '0');
                S.rowIs("lot of " + seed, x, 0, all.substring(i + 1) + all.substring(0, i + 1));
                S.is("it is no ring", x.rule(4), 0);
            }
        }
    }

    /** By numbers of any size, bit by bit. */
    private static int placeByLot(int seed, int many) {
        java.math.BigInteger n = java.math.BigInteger.valueOf(seed).multiply(java.math.BigInteger.valueOf(1103515245));
        n = n.add(java.math.BigInteger.valueOf(12345));
        int drawn = 0;
        for (int bit = 16; bit <= 30; bit++) if (n.testBit(bit)) drawn |= 1 << bit - 16;
        return drawn % many;
    }

    /** Seeds by which bit 15, bit 31 or a sign that is drawn too would tell another place. */
    private static void lotsOfBits() {
        S.by("A LOT by a seed: the CUT at the PLACE that bits 16 to 30 of seed times 1103515245 and 12345 are, modulo how many there are.");
        // behind 12345 the lowest 16 bits of these are all 0, or all 1
        int[] carried = {42627, 47902};
        for (int seed : carried) {
            int rest = (seed * 1103515245 + 12345) & 65535;
            S.is("the rest by " + seed, rest == 0 || rest == 65535 ? 1 : 0, 1);
            TailSpeaks x = Due.told(SIX + "row 1 0 1 2 3 4 5;ring 1;");
            S.is("lot of " + seed, x.lot(1, seed), placeByLot(seed, 6));
        }
        int high = 0, top = 0, low = 0;
        for (int seed = 1; seed < 60; seed++) {
            int n = seed * 1103515245 + 12345, due = placeByLot(seed, 5);
            if ((n >>> 16) % 5 != due) high++;
            if ((n >>> 16 & 0x3fff) % 5 != due) top++;
            if ((n >>> 15 & 0x7fff) % 5 != due) low++;
            TailSpeaks x = Due.told(SIX + "row 1 0 1 2 3 4;ring 1;");
            S.is("lot of " + seed, x.lot(1, seed), due);
        }
        S.is("the seeds tell bits apart", high > 0 && top > 0 && low > 0 ? 1 : 0, 1);
        S.by("modulo how many there are");
        TailSpeaks x = Due.told(SIX + "row 1 3;ring 1;");
        S.is("one alone", x.lot(1, 99), 3);
        S.is("it is no ring then", x.lot(1, 99), STATE);
    }

    private static void teaching() {
        S.by("A ONE KNOWS a FACT, or does not: whether he did.");
        for (int p = 0; p < 6; p++) {
            for (int f = 0; f < 4; f++) {
                TailSpeaks x = Due.told(SIX);
                int was = x.one(p, 2), did = was >> f & 1;
                S.is("teach", x.teach(p, f, true), did);
                S.is("he knows", x.one(p, 2), was | 1 << f);
                S.is("teach again", x.teach(p, f, true), 1);
                S.is("he does not", x.teach(p, f, false), 1);
                S.is("he does not", x.one(p, 2), was & ~(1 << f));
                S.is("teach again", x.teach(p, f, false), 0);
                S.is("no minute", x.rule(1), 0);
            }
        }
    }

    private static void pricing() {
        S.by("PRICE of a ONE becomes v: what it was.");
        for (int p = 0; p < 6; p++) {
            TailSpeaks x = Due.told(SIX);
            int was = x.one(p, 1);
            for (int v = 0; v <= 9; v++) {
                S.is("price", x.price(p, v), was);
                was = v;
                S.is("one", x.one(p, 1), v);
            }
            S.is("the next one's", x.one((p + 1) % 6, 1), new int[] {3, 5, 1, 9, 4, 0}[(p + 1) % 6]);
            S.is("no minute", x.rule(1), 0);
        }
    }
}
