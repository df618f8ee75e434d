import java.util.ArrayList;
import java.util.List;
import java.util.Random;
import java.util.function.Supplier;
import java.util.function.ToIntFunction;

/** Every refusal of every call: the first that fits, and that it changes nothing. */
public final class RefusedTest {
    private static final int BAD = -1, STATE = -2, FULL = -3, NONE = -4;
    private static final int MIN = Integer.MIN_VALUE, MAX = Integer.MAX_VALUE;
    private static final int[] NO_ROWS = {-1, 2, 3, MIN, MAX};
    private static final int[] NO_FACTS = {-1, 4, 5, MIN, MAX};
    private static final int[] NO_ONES = {-1, 6, 7, MIN, MAX};
    private static final int[] NO_IMAGES = {-1, 2, 3, MIN, MAX};
    /** 0 1 2 in row 0, 3 4 in row 1, 5 in none. */
    private static final String ROWS = House.SIX + "row 0 0 1 2;row 1 3 4;";
    private static final String RINGS = ROWS + "ring 0;ring 1;";
    private static final String NOBODY_IN = House.SIX;
    private static final String ALL_IN = House.SIX + "row 0 0 1 2 3 4 5;";
    private static final Sentence S = new Sentence();

    public static void main(String[] args) {
        constants();
        asking();
        feeding();
        saying();
        askingTheOneAhead();
        going();
        changing();
        serving();
        coming();
        splitting();
        joining();
        ringing();
        cutting();
        lots();
        tellingOtherwise();
        planning();
        latest();
        steering();
        common();
        seeing();
        talking();
        keeping();
        sheets();
        reading();
        theFirstThatFits();
        drawnRuns();
        S.end();
    }

    private static void refused(String call, String text, ToIntFunction<TailSpeaks> done, int want) {
        Supplier<TailSpeaks> house = () -> House.of(text);
        S.refused(call + " in '" + text.substring(Math.min(text.length(), House.SIX.length())) + "'", house, done, want);
    }

    private static void constants() {
        S.by("BAD -1 (a number is not as told, there is no such ONE, ROW, PLACE, FACT, IMAGE, SHEET), STATE -2 (as told), FULL -3, NONE -4 (there is none)");
        S.is("BAD", TailSpeaks.BAD, -1);
        S.is("STATE", TailSpeaks.STATE, -2);
        S.is("FULL", TailSpeaks.FULL, -3);
        S.is("NONE", TailSpeaks.NONE, -4);
    }

    private static void asking() {
        S.by("0 PEOPLE, 1 THE HOUR, 2 and 3 how many are in ROW 0, 1, 4 and 5 whether it is a RING. BAD.");
        int[] rules = {-1, 6, 7, MIN, MAX};
        for (int w : rules) refused("rule " + w, ROWS, x -> x.rule(w), BAD);
        S.by("Of a ONE: 0 KIND, 1 PRICE, 2 FACTS that he KNOWS (bits), 3 his ROW, 4 his PLACE (NONE: in none). BAD.");
        int[] whats = {-1, 5, 6, MIN, MAX};
        for (int w : whats) refused("one 5 " + w, ROWS, x -> x.one(5, w), BAD);
        for (int p : NO_ONES) for (int w = 0; w < 5; w++) S.is("one " + p, House.of(ROWS).one(p, w), BAD);
        for (int w = 0; w < 5; w++) S.is("one 1 of one", Due.told("person plain 1;").one(1, w), BAD);
        S.by("The ONE at a PLACE of a ROW. BAD.");
        for (int r : NO_ROWS) refused("at " + r, ROWS, x -> x.at(r, 0), BAD);
        int[] places = {-1, 3, 4, 6, MIN, MAX};
        for (int i : places) refused("at 0 " + i, ROWS, x -> x.at(0, i), BAD);
        refused("at 1 2", ROWS, x -> x.at(1, 2), BAD);
        refused("at 0 0", NOBODY_IN, x -> x.at(0, 0), BAD);
        refused("at 0 6", ALL_IN, x -> x.at(0, 6), BAD);
        S.by("ONES who KNOW a FACT (bits). BAD.");
        for (int f : NO_FACTS) refused("know " + f, ROWS, x -> x.know(f), BAD);
    }

    private static void feeding() {
        S.by("FULL: more than 320.");
        Supplier<TailSpeaks> full = () -> {
            TailSpeaks x = House.of(ROWS);
            while (x.count(4) < 313) x.feed(0x2020202020202020L);
            return x;
        };
        S.refused("feed", full, x -> x.feed(0), FULL);
        S.by("THE TAPE keeps its first n bytes: how many it had. BAD.");
        int[] ns = {-1, 36, 320, 321, MIN, MAX};
        for (int n : ns) refused("end " + n + " of 35", ROWS, x -> x.end(n), BAD);
    }

    private static void saying() {
        S.by("SAY: whether THE ONE AHEAD came to KNOW it by that. BAD; STATE: a RING, no ONE AHEAD, THE LAST is mute; NONE: he does not KNOW it.");
        for (int r : NO_ROWS) refused("say " + r, ROWS, x -> x.say(r, 0), BAD);
        for (int f : NO_FACTS) {
            refused("say 0 " + f, ROWS, x -> x.say(0, f), BAD);
            refused("say 0 " + f, RINGS, x -> x.say(0, f), BAD);
            refused("say 0 " + f, NOBODY_IN, x -> x.say(0, f), BAD);
            refused("say 1 " + f, ROWS, x -> x.say(1, f), BAD);
        }
        refused("say in a ring", RINGS, x -> x.say(0, 1), STATE);
        refused("say in a ring what he does not know", RINGS, x -> x.say(0, 2), STATE);
        refused("say, nobody", NOBODY_IN, x -> x.say(0, 0), STATE);
        refused("say alone", House.SIX + "row 0 0;", x -> x.say(0, 0), STATE);
        refused("say alone what he does not know", House.SIX + "row 0 0;", x -> x.say(0, 2), STATE);
        refused("say, mute", ROWS, x -> x.say(1, 0), STATE);
        refused("say, mute, what he does not know", ROWS, x -> x.say(1, 1), STATE);
        refused("say what he does not know", ROWS, x -> x.say(0, 0), NONE);
        refused("say what he does not know, but the one ahead", House.SIX + "row 1 5 0 1;", x -> x.say(1, 0), NONE);
    }

    private static void askingTheOneAhead() {
        S.by("ASK: whether THE LAST came to KNOW it by that. BAD; STATE: a RING, no ONE AHEAD, THE LAST is mute.");
        for (int r : NO_ROWS) refused("ask " + r, ROWS, x -> x.ask(r, 0), BAD);
        for (int f : NO_FACTS) {
            refused("ask 0 " + f, ROWS, x -> x.ask(0, f), BAD);
            refused("ask 0 " + f, RINGS, x -> x.ask(0, f), BAD);
            refused("ask 1 " + f, ROWS, x -> x.ask(1, f), BAD);
        }
        refused("ask in a ring", RINGS, x -> x.ask(0, 0), STATE);
        refused("ask, nobody", NOBODY_IN, x -> x.ask(1, 0), STATE);
        refused("ask alone", House.SIX + "row 0 0;", x -> x.ask(0, 0), STATE);
        refused("ask, mute", ROWS, x -> x.ask(1, 2), STATE);
    }

    private static void going() {
        S.by("GO: who went. BAD; STATE: a RING.");
        for (int r : NO_ROWS) refused("go " + r, ROWS, x -> x.go(r, 0), BAD);
        int[] places = {-1, 3, 6, MIN, MAX};
        for (int i : places) {
            refused("go 0 " + i, ROWS, x -> x.go(0, i), BAD);
            refused("go 0 " + i, RINGS, x -> x.go(0, i), BAD);
        }
        refused("go 1 2", ROWS, x -> x.go(1, 2), BAD);
        refused("go, nobody", NOBODY_IN, x -> x.go(0, 0), BAD);
        refused("go, nobody in a ring", NOBODY_IN + "ring 0;", x -> x.go(0, 0), BAD);
        for (int i = 0; i < 3; i++) {
            int place = i;
            refused("go in a ring " + i, RINGS, x -> x.go(0, place), STATE);
        }
    }

    private static void changing() {
        S.by("THE LAST of a ROW goes to the back of the other one, in a MINUTE: who. BAD; STATE: one is a RING; NONE: nobody is there.");
        for (int r : NO_ROWS) {
            refused("change " + r, ROWS, x -> x.change(r), BAD);
            refused("change " + r, RINGS, x -> x.change(r), BAD);
        }
        for (int r = 0; r < 2; r++) {
            int row = r;
            refused("change " + r, RINGS, x -> x.change(row), STATE);
            refused("change " + r, ROWS + "ring 0;", x -> x.change(row), STATE);
            refused("change " + r, ROWS + "ring 1;", x -> x.change(row), STATE);
            refused("change " + r, NOBODY_IN + "ring 0;", x -> x.change(row), STATE);
            refused("change " + r, NOBODY_IN + "ring 1;", x -> x.change(row), STATE);
            refused("change " + r, NOBODY_IN, x -> x.change(row), NONE);
        }
        refused("change 1", ALL_IN, x -> x.change(1), NONE);
    }

    private static void serving() {
        S.by("The ONE at the front of a ROW is served, in a MINUTE, and is in no ROW then: who. BAD; STATE: a RING; NONE: nobody is there.");
        for (int r : NO_ROWS) {
            refused("serve " + r, ROWS, x -> x.serve(r), BAD);
            refused("serve " + r, RINGS, x -> x.serve(r), BAD);
        }
        for (int r = 0; r < 2; r++) {
            int row = r;
            refused("serve " + r, RINGS, x -> x.serve(row), STATE);
            refused("serve " + r, NOBODY_IN + "ring 0;ring 1;", x -> x.serve(row), STATE);
            refused("serve " + r, NOBODY_IN, x -> x.serve(row), NONE);
        }
        refused("serve 1", ALL_IN + "ring 0;", x -> x.serve(1), NONE);
    }

    private static void coming() {
        S.by("A ONE who is in no ROW comes to the back of one, in a MINUTE: his PLACE. BAD; STATE: he is in one, it is a RING.");
        for (int r : NO_ROWS) {
            refused("come 5 " + r, ROWS, x -> x.come(5, r), BAD);
            refused("come 0 " + r, ROWS, x -> x.come(0, r), BAD);
        }
        for (int p : NO_ONES) {
            refused("come " + p, ROWS, x -> x.come(p, 0), BAD);
            refused("come " + p, RINGS, x -> x.come(p, 0), BAD);
        }
        for (int r = 0; r < 2; r++) {
            int row = r;
            for (int p = 0; p < 5; p++) {
                int who = p;
                refused("come " + p + " " + r, ROWS, x -> x.come(who, row), STATE);
            }
            refused("come 5 to a ring", RINGS, x -> x.come(5, row), STATE);
            refused("come 0 of a ring", ROWS + "ring 0;", x -> x.come(0, row), STATE);
        }
    }

    private static void splitting() {
        S.by("ROW 0 is cut in two: those from PLACE i on (1 or more, somebody there) are ROW 1: how many these are. BAD; STATE: somebody is in ROW 1, one is a RING.");
        String free = House.SIX + "row 0 0 1 2;";
        int[] places = {0, -1, 3, 4, MIN, MAX};
        for (int i : places) {
            refused("split " + i, free, x -> x.split(i), BAD);
            refused("split " + i, free + "ring 0;", x -> x.split(i), BAD);
            refused("split " + i, free + "ring 1;", x -> x.split(i), BAD);
            refused("split " + i, ROWS, x -> x.split(i), BAD);
        }
        refused("split 1, nobody", NOBODY_IN, x -> x.split(1), BAD);
        refused("split 0, nobody", NOBODY_IN, x -> x.split(0), BAD);
        refused("split 1, of one", House.SIX + "row 0 5;", x -> x.split(1), BAD);
        refused("split 6, of six", ALL_IN, x -> x.split(6), BAD);
        for (int i = 1; i < 3; i++) {
            int place = i;
            refused("split " + i, ROWS, x -> x.split(place), STATE);
            refused("split " + i, House.SIX + "row 0 0 1 2;row 1 5;", x -> x.split(place), STATE);
            refused("split " + i, free + "ring 0;", x -> x.split(place), STATE);
            refused("split " + i, free + "ring 1;", x -> x.split(place), STATE);
        }
    }

    private static void joining() {
        S.by("ROW 1 comes behind ROW 0 (and is empty): how many are in that. STATE: one is a RING.");
        String[] people = {ROWS, NOBODY_IN, ALL_IN, House.SIX + "row 1 4 5;"};
        for (String text : people) {
            refused("join", text + "ring 0;", x -> x.join(), STATE);
            refused("join", text + "ring 1;", x -> x.join(), STATE);
            refused("join", text + "ring 0;ring 1;", x -> x.join(), STATE);
        }
    }

    private static void ringing() {
        S.by("A ROW becomes a RING: 1. BAD; STATE: it is one.");
        for (int r : NO_ROWS) {
            refused("ring " + r, ROWS, x -> x.ring(r), BAD);
            refused("ring " + r, RINGS, x -> x.ring(r), BAD);
        }
        for (int r = 0; r < 2; r++) {
            int row = r;
            refused("ring " + r, RINGS, x -> x.ring(row), STATE);
            refused("ring " + r, NOBODY_IN + "ring " + r + ";", x -> x.ring(row), STATE);
        }
    }

    private static void cutting() {
        S.by("A CUT of a RING: THE LAST. BAD; STATE: it is none.");
        for (int r : NO_ROWS) refused("cut " + r, RINGS, x -> x.cut(r, 0), BAD);
        int[] places = {-1, 3, 4, MIN, MAX};
        for (int i : places) {
            refused("cut 0 " + i, RINGS, x -> x.cut(0, i), BAD);
            refused("cut 0 " + i, ROWS, x -> x.cut(0, i), BAD);
        }
        refused("cut 1 2", RINGS, x -> x.cut(1, 2), BAD);
        refused("cut, nobody", NOBODY_IN + "ring 0;", x -> x.cut(0, 0), BAD);
        refused("cut, nobody, no ring", NOBODY_IN, x -> x.cut(0, 0), BAD);
        for (int i = 0; i < 3; i++) {
            int place = i;
            refused("cut 0 " + i, ROWS + "ring 1;", x -> x.cut(0, place), STATE);
        }
    }

    private static void lots() {
        S.by("A LOT: THE LAST. BAD; STATE: it is no RING; NONE: nobody is there.");
        int[] seeds = {0, 1, -1, MIN, MAX};
        for (int seed : seeds) {
            for (int r : NO_ROWS) S.is("lot " + r, House.of(RINGS).lot(r, seed), BAD);
            refused("lot 2", RINGS, x -> x.lot(2, seed), BAD);
            for (int r = 0; r < 2; r++) {
                int row = r;
                refused("lot " + r, ROWS + "ring " + (1 - r) + ";", x -> x.lot(row, seed), STATE);
                refused("lot " + r, NOBODY_IN, x -> x.lot(row, seed), STATE);
                refused("lot " + r, NOBODY_IN + "ring " + r + ";", x -> x.lot(row, seed), NONE);
            }
        }
    }

    private static void tellingOtherwise() {
        S.by("A ONE KNOWS a FACT, or does not: whether he did. BAD.");
        boolean[] both = {true, false};
        for (boolean does : both) {
            for (int p : NO_ONES) refused("teach " + p, ROWS, x -> x.teach(p, 0, does), BAD);
            for (int f : NO_FACTS) refused("teach 0 " + f, ROWS, x -> x.teach(0, f, does), BAD);
            S.is("teach 1 of one", Due.told("person plain 1;").teach(1, 0, does), BAD);
        }
        S.by("PRICE of a ONE becomes v: what it was. BAD.");
        for (int p : NO_ONES) refused("price " + p, ROWS, x -> x.price(p, 1), BAD);
        int[] values = {-1, 10, 11, 99, MIN, MAX};
        for (int v : values) refused("price 0 " + v, ROWS, x -> x.price(0, v), BAD);
        S.is("price 1 of one", Due.told("person plain 1;").price(1, 0), BAD);
    }

    private static void planning() {
        S.by("A PLAN for a FACT and some ONES (bits, all of them in that ROW) by HOW: its cost (what 0), how many ACTS (1); 10 and i: ACT i: 0 SAY, 1 ASK, 10 and a PLACE: GO. BAD; STATE: a RING, more than 5 are in it; NONE: it can not be; it has not so many (10 and i).");
        String[] texts = {ROWS, RINGS, NOBODY_IN, ALL_IN};
        for (String text : texts) {
            for (int r : NO_ROWS) refused("plan " + r, text, x -> x.plan(r, 0, 0, 0, 0), BAD);
            for (int f : NO_FACTS) refused("plan 0 " + f, text, x -> x.plan(0, f, 0, 0, 0), BAD);
            int[] hows = {-1, 3, 4, MIN, MAX};
            for (int how : hows) refused("plan by " + how, text, x -> x.plan(0, 0, 0, how, 0), BAD);
            int[] whats = {-1, 2, 9, MIN};
            for (int what : whats) refused("plan, what " + what, text, x -> x.plan(0, 0, 0, 0, what), BAD);
            int[] somes = {65, -1, -2, MAX};
            for (int some : somes) refused("plan for " + some, text, x -> x.plan(0, 0, some, 0, 0), BAD);
            for (int bit = 6; bit < 32; bit++) {
                int some = 1 << bit;
                S.is("plan for " + some, House.of(text).plan(0, 0, some, 0, 0), BAD);
            }
        }
        int[] others = {8, 9, 16, 15, 32, 33, 63};
        for (int some : others) {
            refused("plan for those of another row, " + some, ROWS, x -> x.plan(0, 0, some, 0, 0), BAD);
            refused("plan for those of another row, " + some, RINGS, x -> x.plan(0, 0, some, 0, 0), BAD);
        }
        refused("plan for one, nobody", NOBODY_IN, x -> x.plan(1, 0, 1, 0, 0), BAD);
        int[] whats = {0, 1, 10, 11, MAX};
        for (int what : whats) {
            refused("plan in a ring", RINGS, x -> x.plan(0, 0, 7, 0, what), STATE);
            refused("plan in a ring, for none", RINGS, x -> x.plan(0, 0, 0, 0, what), STATE);
            refused("plan in a ring that can not be", RINGS, x -> x.plan(0, 2, 7, 0, what), STATE);
            refused("plan of six", ALL_IN, x -> x.plan(0, 0, 63, 0, what), STATE);
            refused("plan of six that can not be", ALL_IN, x -> x.plan(0, 1, 63, 0, what), STATE);
            refused("plan that can not be", ROWS, x -> x.plan(0, 2, 7, 0, what), NONE);
        }
        refused("an act too many", ROWS, x -> x.plan(0, 1, 4, 0, 10), NONE);
    }

    private static void latest() {
        S.by("PLANS for each ONE of a ROW alone by MINUTES: he whose is the dearest, of several the one at the least PLACE (what 0), its cost (1). BAD; STATE likewise; NONE: for one it can not be, nobody is there.");
        String[] texts = {ROWS, RINGS, NOBODY_IN, ALL_IN};
        for (String text : texts) {
            for (int r : NO_ROWS) refused("latest " + r, text, x -> x.latest(r, 0, 0), BAD);
            for (int f : NO_FACTS) refused("latest 0 " + f, text, x -> x.latest(0, f, 0), BAD);
            int[] whats = {-1, 2, 10, MIN, MAX};
            for (int what : whats) refused("latest, what " + what, text, x -> x.latest(0, 0, what), BAD);
        }
        for (int w = 0; w < 2; w++) {
            int what = w;
            refused("latest in a ring", RINGS, x -> x.latest(0, 0, what), STATE);
            refused("latest in a ring, nobody", NOBODY_IN + "ring 0;", x -> x.latest(0, 0, what), STATE);
            refused("latest of six", ALL_IN, x -> x.latest(0, 0, what), STATE);
            refused("latest of six that can not be", ALL_IN, x -> x.latest(0, 1, what), STATE);
            refused("latest that can not be", ROWS, x -> x.latest(0, 2, what), NONE);
            refused("latest, nobody", NOBODY_IN, x -> x.latest(0, 0, what), NONE);
        }
    }

    private static void steering() {
        S.by("A RING: the PLACE at which a CUT makes a PLAN for all of them by MINUTES cheapest, of several the least (what 0), its cost (1). BAD; STATE: it is none, more than 5 are in it; NONE: by none it can be, nobody is there.");
        String[] texts = {ROWS, RINGS, NOBODY_IN, ALL_IN + "ring 0;"};
        for (String text : texts) {
            for (int r : NO_ROWS) refused("steer " + r, text, x -> x.steer(r, 0, 0), BAD);
            for (int f : NO_FACTS) refused("steer 0 " + f, text, x -> x.steer(0, f, 0), BAD);
            int[] whats = {-1, 2, 10, MIN, MAX};
            for (int what : whats) refused("steer, what " + what, text, x -> x.steer(0, 0, what), BAD);
        }
        for (int w = 0; w < 2; w++) {
            int what = w;
            refused("steer in no ring", ROWS + "ring 1;", x -> x.steer(0, 0, what), STATE);
            refused("steer in no ring, nobody", NOBODY_IN, x -> x.steer(0, 0, what), STATE);
            refused("steer in no ring of six", ALL_IN, x -> x.steer(0, 0, what), STATE);
            refused("steer of six", ALL_IN + "ring 0;", x -> x.steer(0, 0, what), STATE);
            refused("steer of six that can not be", ALL_IN + "ring 0;", x -> x.steer(0, 1, what), STATE);
            refused("steer that can not be", RINGS, x -> x.steer(0, 2, what), NONE);
            refused("steer, nobody", NOBODY_IN + "ring 1;", x -> x.steer(1, 0, what), NONE);
        }
        S.changesNothing("steer", steered(), House.of(RINGS));
    }

    private static TailSpeaks steered() {
        TailSpeaks x = House.of(RINGS);
        S.is("steer", x.steer(0, 0, 0), 0);
        S.is("steer", x.steer(0, 0, 1), 2);
        return x;
    }

    private static void common() {
        S.by("FACTS (bits) for which there is a PLAN for all of a ROW (nobody there: all FACTS). BAD; STATE: a RING, more than 5 are in it.");
        for (int r : NO_ROWS) {
            refused("common " + r, ROWS, x -> x.common(r), BAD);
            refused("common " + r, RINGS, x -> x.common(r), BAD);
        }
        for (int r = 0; r < 2; r++) {
            int row = r;
            refused("common in a ring", RINGS, x -> x.common(row), STATE);
            refused("common in a ring, nobody", NOBODY_IN + "ring " + r + ";", x -> x.common(row), STATE);
            refused("common of six", House.SIX + "row " + r + " 0 1 2 3 4 5;", x -> x.common(row), STATE);
        }
    }

    private static void seeing() {
        S.by("SEEN: a ONE who went (NONE: QUIET): how many are. BAD; FULL.");
        int[] bad = {-1, -2, -3, -5, 6, 7, MIN, MAX};
        Supplier<TailSpeaks> full = () -> {
            TailSpeaks x = House.of(ROWS);
            for (int i = 0; i < 3; i++) x.saw(i);
            return x;
        };
        for (int p : bad) {
            refused("saw " + p, ROWS, x -> x.saw(p), BAD);
            S.refused("saw " + p + ", five seen", full, x -> x.saw(p), BAD);
        }
        for (int p = 0; p < 6; p++) {
            int who = p;
            S.refused("saw " + p + ", five seen", full, x -> x.saw(who), FULL);
        }
        S.refused("saw none go, five seen", full, x -> x.saw(NONE), FULL);
    }

    private static void talking() {
        S.by("TALKS from IMAGE k: how many (what 0); 10 and i: what was done in MINUTE i of the first one by ACTS: 0 to 3 SAY that FACT, 4 to 7 ASK (FACT and 4), 8 nothing, 9 GO. BAD (also i no less than SEEN); STATE: there is no such IMAGE, ROW 0 is a RING in it; NONE (10 and i): there is none.");
        Supplier<TailSpeaks> none = () -> {
            TailSpeaks x = Due.told(ROWS);
            x.saw(NONE);
            return x;
        };
        int[] whats = {-1, 1, 9, 12, 13, 20, MIN, MAX};
        for (int what : whats) {
            refused("talks, what " + what, ROWS, x -> x.talks(0, what), BAD);
            refused("talks, what " + what, RINGS, x -> x.talks(0, what), BAD);
            S.refused("talks, what " + what + ", no image", none, x -> x.talks(0, what), BAD);
        }
        for (int k : NO_IMAGES) {
            refused("talks " + k, ROWS, x -> x.talks(k, 0), BAD);
            refused("talks " + k, ROWS, x -> x.talks(k, 10), BAD);
        }
        for (int k = 0; k < 2; k++) {
            int image = k;
            refused("talks " + k, RINGS, x -> x.talks(image, 0), STATE);
            refused("talks " + k, RINGS, x -> x.talks(image, 10), STATE);
            S.refused("talks " + k, none, x -> x.talks(image, 0), STATE);
            S.refused("talks " + k, none, x -> x.talks(image, 10), STATE);
        }
        // who learnt by no talk: image 1 is older than that
        refused("none fits", ROWS, x -> x.talks(1, 10), NONE);
        refused("none fits", ROWS, x -> x.talks(1, 11), NONE);
    }

    private static void keeping() {
        S.by("IMAGE k (0, 1) is all of PEOPLE, ROWS, THE HOUR: whether there was one (1, 0). BAD.");
        for (int k : NO_IMAGES) refused("keep " + k, ROWS, x -> x.keep(k), BAD);
        S.by("All is as IMAGE k: THE HOUR. BAD; STATE: there is none.");
        for (int k : NO_IMAGES) refused("back " + k, ROWS, x -> x.back(k), BAD);
        for (int k = 0; k < 2; k++) {
            int image = k;
            Supplier<TailSpeaks> one = () -> {
                TailSpeaks x = Due.told(ROWS);
                x.keep(1 - image);
                x.go(0, 0);
                return x;
            };
            S.refused("back " + k, one, x -> x.back(image), STATE);
            S.refused("back " + k, TailSpeaks::new, x -> x.back(image), STATE);
        }
    }

    private static void sheets() {
        S.by("A SHEET is a new row of CELLS 0: 1. BAD: also n above 40; -10 - 4.");
        int[] ks = {-1, 4, MIN, MAX}, lanes = {-1, 3, MIN, MAX}, many = {41, MAX}, few = {-1, MIN};
        for (int k : ks) for (int n : few) refused("sheet " + k, ROWS, x -> x.sheet(k, 0, n), BAD);
        for (int k : ks) refused("sheet " + k, ROWS, x -> x.sheet(k, 0, 3), BAD);
        for (int lane : lanes) refused("sheet of lane " + lane, ROWS, x -> x.sheet(0, lane, 3), BAD);
        for (int lane : lanes) refused("sheet of lane " + lane, ROWS, x -> x.sheet(0, lane, -1), BAD);
        for (int s = 0; s < 4; s++) {
            int k = s;
            for (int n : many) refused("sheet of " + n, ROWS, x -> x.sheet(k, 1, n), BAD);
            for (int n : few) refused("sheet of " + n, ROWS, x -> x.sheet(k, 1, n), -14);
        }
        S.by("CELL i of a SHEET becomes v (its lowest bits): 1. BAD: k; -10 less the FAULT: NULL, INDEX.");
        for (int k : ks) refused("lay " + k, ROWS, x -> x.lay(k, 0, 10), BAD);
        int[] cells = {-1, 5, 6, 40, MIN, MAX};
        for (int i : cells) {
            for (int s = 0; s < 3; s++) {
                int k = s;
                refused("lay " + k + " " + i, ROWS, x -> x.lay(k, i, 10), -12);
            }
            refused("lay of nothing " + i, ROWS, x -> x.lay(3, i, 10), -11);
        }
        refused("lay of nothing 0", ROWS, x -> x.lay(3, 0, 10), -11);
    }

    private static void reading() {
        S.by("BAD: k, lane, r, n; -20 less i: ACT i is none, or is refused (in whichever way): then none is done; the first met.");
        int[] ks = {-1, 4, MIN, MAX}, lanes = {-1, 3, MIN, MAX}, ns = {-1, 13, MIN, MAX};
        for (int k : ks) refused("read " + k, ROWS, x -> x.read(k, 0, 0, 0, 1), BAD);
        for (int lane : lanes) refused("read as of " + lane, ROWS, x -> x.read(0, lane, 0, 0, 1), BAD);
        for (int r : NO_ROWS) refused("read in " + r, ROWS, x -> x.read(0, 0, r, 0, 1), BAD);
        for (int n : ns) refused("read " + n + " acts", ROWS, x -> x.read(0, 0, 0, 0, n), BAD);
        for (int n : ns) refused("read " + n + " acts of nothing", ROWS, x -> x.read(3, 0, 0, 0, n), BAD);
        // the cells are GO 0, ASK 0, SAY 0, GO 1, and 8, which is none
        for (int s = 0; s < 3; s++) {
            int k = s;
            refused("read", ROWS, x -> x.read(k, k, 0, 0, 5), -24);
            refused("read", ROWS, x -> x.read(k, k, 0, 1, 12), -21);
            refused("read", ROWS, x -> x.read(k, k, 0, 3, 2), -21);
            refused("read", ROWS, x -> x.read(k, k, 0, 4, 1), -20);
            refused("read in a ring", RINGS, x -> x.read(k, k, 0, 0, 5), -20);
            refused("read, nobody", NOBODY_IN, x -> x.read(k, k, 0, 0, 1), -20);
        }
    }

    /** Calls that may be refused in two ways at once. */
    private static void theFirstThatFits() {
        S.by("FULL -3, NONE -4 (there is none), the first that fits");
        String ring = NOBODY_IN + "ring 0;";
        refused("BAD, STATE: say", ring, x -> x.say(0, 4), BAD);
        refused("STATE, NONE: say", RINGS, x -> x.say(0, 3), STATE);
        refused("BAD, STATE: ask", ring, x -> x.ask(0, 4), BAD);
        refused("BAD, STATE: go", ring, x -> x.go(0, 0), BAD);
        refused("STATE, NONE: change", ring, x -> x.change(0), STATE);
        refused("STATE, NONE: change", ring, x -> x.change(1), STATE);
        refused("STATE, NONE: serve", ring, x -> x.serve(0), STATE);
        refused("BAD, STATE: come", ring, x -> x.come(6, 0), BAD);
        refused("BAD, STATE: split", ring, x -> x.split(1), BAD);
        refused("BAD, STATE: cut", NOBODY_IN, x -> x.cut(0, 0), BAD);
        refused("STATE, NONE: lot", NOBODY_IN, x -> x.lot(0, 0), STATE);
        refused("BAD, STATE: plan", RINGS, x -> x.plan(0, 0, 8, 0, 0), BAD);
        refused("STATE, NONE: plan", RINGS, x -> x.plan(0, 2, 1, 0, 10), STATE);
        refused("BAD, NONE: plan", ROWS, x -> x.plan(0, 2, 7, 0, 9), BAD);
        refused("STATE, NONE: latest", ring, x -> x.latest(0, 0, 0), STATE);
        refused("BAD, NONE: latest", NOBODY_IN, x -> x.latest(0, 0, 2), BAD);
        refused("STATE, NONE: steer", NOBODY_IN, x -> x.steer(0, 0, 0), STATE);
        refused("BAD, NONE: steer", ring, x -> x.steer(0, 0, 2), BAD);
        refused("STATE, all FACTS: common", ring, x -> x.common(0), STATE);
        refused("BAD, STATE: talks", RINGS, x -> x.talks(0, 12), BAD);
        refused("BAD, STATE: back", NOBODY_IN, x -> x.back(2), BAD);
        refused("BAD, SIZE: sheet", ROWS, x -> x.sheet(4, 0, -1), BAD);
        refused("BAD, NULL: lay", ROWS, x -> x.lay(4, 0, 0), BAD);
        refused("NULL, INDEX: lay", ROWS, x -> x.lay(3, -1, 0), -11);
        refused("BAD, NULL: read", ROWS, x -> x.read(3, 0, 2, 0, 1), BAD);
        refused("BAD, no ACT: read", ROWS, x -> x.read(0, 0, 0, 4, 13), BAD);
    }

    /** Of two objects one is given all drawn calls, the other those alone that were not refused. */
    private static void drawnRuns() {
        S.by("what is refused changes nothing (but THE TAPE, as told).");
        Random random = new Random(20261118);
        int refusals = 0;
        for (int run = 0; run < 400; run++) {
            String[] texts = {ROWS, RINGS, ALL_IN, NOBODY_IN, ROWS + "ring 1;"};
            TailSpeaks x = House.of(texts[run % texts.length]), y = House.of(texts[run % texts.length]);
            for (int c = 0; c < 60; c++) {
                ToIntFunction<TailSpeaks> call = drawn(random);
                int got = call.applyAsInt(x);
                if (got < 0) refusals++;
                else S.is("call " + c + " of run " + run, call.applyAsInt(y), got);
            }
            inOneRowAtMost(x);
            S.changesNothing("run " + run, x, y);
        }
        S.is("many are refused", refusals > 5000 ? 1 : 0, 1);
    }

    private static void inOneRowAtMost(TailSpeaks x) {
        S.by("a ONE is in one ROW at most.");
        int stand = 0, met = 0;
        for (int r = 0; r < 2; r++) {
            for (int i = 0; i < x.rule(2 + r); i++) {
                int p = x.at(r, i);
                S.is("his row", x.one(p, 3), r);
                S.is("his place", x.one(p, 4), i);
                stand |= 1 << p;
                met++;
            }
        }
        S.is("each is met once", Integer.bitCount(stand), met);
        S.is("those in rows", x.count(0), met);
        for (int p = 0; p < 6; p++) S.is("in a row", x.one(p, 3) == NONE ? 0 : 1, stand >> p & 1);
        S.by("what is refused changes nothing (but THE TAPE, as told).");
    }

    private static ToIntFunction<TailSpeaks> drawn(Random random) {
        int a = random.nextInt(5) - 1, b = random.nextInt(6) - 1, n = random.nextInt(16) - 2, v = random.nextInt(18) - 1;
        List<ToIntFunction<TailSpeaks>> calls = new ArrayList<>();
        calls.add(x -> x.feed(v));
        calls.add(x -> x.end(v * 4));
        calls.add(x -> x.say(a, b));
        calls.add(x -> x.ask(a, b));
        calls.add(x -> x.go(a, b));
        calls.add(x -> x.change(a));
        calls.add(x -> x.serve(a));
        calls.add(x -> x.come(b, a));
        calls.add(x -> x.split(b));
        calls.add(x -> x.join());
        calls.add(x -> x.ring(a));
        calls.add(x -> x.cut(a, b));
        calls.add(x -> x.lot(a, v * 7919));
        calls.add(x -> x.teach(b, a, v > 8));
        calls.add(x -> x.price(b, n));
        calls.add(x -> x.plan(a, b, v, n % 4, n));
        calls.add(x -> x.latest(a, b, v % 3));
        calls.add(x -> x.steer(a, b, v % 3));
        calls.add(x -> x.common(a));
        calls.add(x -> x.saw(v < 6 ? b : NONE));
        calls.add(x -> x.talks(a, n + 8));
        calls.add(x -> x.keep(a));
        calls.add(x -> x.back(a));
        calls.add(x -> x.sheet(b, a, n));
        calls.add(x -> x.lay(b, n, v));
        calls.add(x -> x.lay(b, n, v));
        calls.add(x -> x.read(b, a, v & 1, n - 2, v % 7));
        calls.add(x -> x.read(b, b % 3, 0, 0, v % 5));
        return calls.get(random.nextInt(calls.size()));
    }
}
