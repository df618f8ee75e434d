/** What was seen, talks and images: each sentence that names a boundary case (promises 27 to 31). */
public final class TalkEdgeTest {
    private static final int BAD = -1, STATE = -2, FULL = -3, NONE = -4;
    private static final int MIN = Integer.MIN_VALUE, MAX = Integer.MAX_VALUE;
    private static final int ASK = 4, NOTHING = 8, GO = 9;
    private static final String WISE = "person plain 1 0 1 2 3;person plain 2 0 1 2 3;person plain 3 0 1 2 3;";
    private static final Sentence S = new Sentence();

    public static void main(String[] args) {
        seeing();
        fiveAreSeen();
        forgetting();
        nothingWasSeen();
        whatMayBeSaid();
        kindsOfTalk();
        nobodyKnowsAnything();
        noOneAhead();
        theSixth();
        going();
        goingOfOthers();
        theQuickAreSeen();
        asItIsNow();
        asItIsNowOfAll();
        manyTalks();
        theFirstTalk();
        noneFits();
        noMinuteLikeThat();
        noSuchImage();
        aRingInIt();
        keeping();
        goingBack();
        backAndForth();
        S.end();
    }

    private static void saw(TailSpeaks x, int... who) {
        for (int p : who) x.saw(p);
    }

    /** The talks from image 0: how many, and what was done in the first one. */
    private static void talksAre(String call, TailSpeaks x, int many, int... first) {
        S.is(call + ": talks", x.talks(0, 0), many);
        for (int i = 0; i < first.length; i++) S.is(call + ": minute " + i, x.talks(0, 10 + i), first[i]);
        S.is(call + ": a minute more", x.talks(0, 10 + first.length), first.length == x.count(2) ? BAD : NONE);
    }

    private static TailSpeaks kept(String text) {
        TailSpeaks x = Due.told(text);
        x.keep(0);
        return x;
    }

    private static void seeing() {
        S.by("SEEN: a ONE who went (NONE: QUIET): how many are.");
        TailSpeaks x = Due.told(House.SIX + "row 0 0;row 1 1;");
        int[] who = {0, 1, 5, NONE, 0};
        for (int i = 0; i < 5; i++) S.is("saw " + who[i], x.saw(who[i]), i + 1);
        S.is("count", x.count(2), 5);
        S.is("nobody is there, quiet", new TailSpeaks().saw(NONE), 1);
        S.by("BAD; FULL.");
        int[] bad = {-1, -2, -3, -5, 6, MIN, MAX};
        for (int p : bad) {
            S.is("saw " + p, Due.told(House.SIX).saw(p), BAD);
            S.is("saw " + p + ", five seen", x.saw(p), BAD);
        }
        S.is("nobody is there", new TailSpeaks().saw(0), BAD);
        S.is("there are five", Due.told(House.SIX.substring(0, 81)).saw(5), BAD);
    }

    private static void fiveAreSeen() {
        S.by("SEEN (5)");
        TailSpeaks x = kept("person plain 1 0;person plain 1;row 0 0 1;");
        for (int i = 1; i <= 5; i++) S.is("saw", x.saw(NONE), i);
        S.is("the sixth", x.saw(NONE), FULL);
        S.is("the sixth", x.saw(0), FULL);
        S.is("count", x.count(2), 5);
        // in vain each time: ASK 1, 2, 3 or nothing
        S.is("those five", x.talks(0, 0), 1024);
        S.is("the fifth", x.talks(0, 14), 5);
        S.is("the sixth", x.talks(0, 15), BAD);
    }

    private static void forgetting() {
        S.by("Nothing is SEEN: how many were.");
        TailSpeaks x = kept("person plain 1 0;person plain 1;row 0 0 1;");
        S.is("none", x.forget(), 0);
        for (int many = 1; many <= 5; many++) {
            for (int i = 0; i < many; i++) x.saw(1);
            S.is("forget", x.forget(), many);
            S.is("count", x.count(2), 0);
            S.is("again", x.forget(), 0);
        }
        S.is("the first again", x.saw(NONE), 1);
        talksAre("only that", x, 4, 5);
    }

    private static void nothingWasSeen() {
        S.by("behind all KNOWS of each ONE is as it is now.");
        TailSpeaks x = kept(House.SIX + "row 0 0 1;");
        talksAre("nothing was seen", x, 1);
        x.teach(5, 0, true);
        talksAre("nothing was seen, but one knows more", x, 0);
        x.teach(5, 0, false);
        x.teach(0, 0, false);
        talksAre("nothing was seen, but one knows less", x, 0);
        x = new TailSpeaks();
        x.keep(0);
        talksAre("nobody", x, 1);
        x.saw(NONE);
        talksAre("nobody, quiet", x, 1, NOTHING);
    }

    private static void whatMayBeSaid() {
        S.by("or, if it was QUIET: SAY of a FACT, ASK of a FACT (which can be, as above), or nothing");
        for (int facts = 0; facts < 16; facts++) {
            StringBuilder known = new StringBuilder();
            for (int f = 0; f < 4; f++) if ((facts >> f & 1) != 0) known.append(' ').append(f);
            TailSpeaks x = kept("person plain 1 0 1 2 3;person plain 1" + known + ";row 0 0 1;");
            x.saw(NONE);
            // SAY what he knows, ASK what he knows, or nothing: nothing comes of it
            int first = Integer.numberOfTrailingZeros(facts | 256);
            talksAre("the last knows " + facts, x, 2 * Integer.bitCount(facts) + 1, first);
            for (int f = 0; f < 4; f++) {
                if ((facts >> f & 1) != 0) continue;
                x.teach(1, f, true);
                talksAre("he came to know " + f, x, 1, ASK + f);
                x.teach(1, f, false);
            }
        }
    }

    private static TailSpeaks quietTwo(int ahead, int last, String aheadKnows, String lastKnows) {
        TailSpeaks x = kept("person " + House.KINDS[ahead] + " 1" + aheadKnows + ";"
            + "person " + House.KINDS[last] + " 1" + lastKnows + ";row 0 0 1;");
        x.saw(NONE);
        return x;
    }

    private static void kindsOfTalk() {
        for (int ahead = 0; ahead < 5; ahead++) {
            for (int last = 0; last < 5; last++) {
                for (int f = 0; f < 4; f++) talkOfTwo(ahead, last, f);
            }
        }
    }

    private static void talkOfTwo(int ahead, int last, int f) {
        S.by("or, if it was QUIET: SAY of a FACT, ASK of a FACT (which can be, as above), or nothing");
        boolean mute = last == 4, told = !mute && last != 2 && ahead != 3, nods = !mute && ahead != 2;
        String call = House.KINDS[last] + " behind " + House.KINDS[ahead] + ", fact " + f + ": he";
        TailSpeaks x = quietTwo(ahead, last, "", " " + f);
        talksAre(call + " says nothing new", x, mute ? 1 : told ? 5 : 6, mute ? NOTHING : told ? ASK : f);
        x.teach(0, f, true);
        S.is(call + " said it", x.talks(0, 0), told ? 1 : 0);
        S.is(call + " said it", x.talks(0, 10), told ? f : NONE);
        x = quietTwo(ahead, last, " " + f, "");
        talksAre(call + " asks nothing new", x, mute ? 1 : nods ? 4 : 5, mute ? NOTHING : nods && f == 0 ? ASK + 1 : ASK);
        x.teach(1, f, true);
        S.is(call + " asked it", x.talks(0, 0), nods ? 1 : 0);
        S.is(call + " asked it", x.talks(0, 10), nods ? ASK + f : NONE);
    }

    private static void nobodyKnowsAnything() {
        S.by("SAY f: THE LAST, who KNOWS FACT f and is not mute, says it");
        TailSpeaks x = kept("person plain 1;person plain 1;person mute 1;row 0 0 1 2;");
        x.saw(NONE);
        talksAre("the mute is the last", x, 1, NOTHING);
        x.forget();
        saw(x, 0, NONE, 1, NONE);
        talksAre("four asks in vain or nothing, twice", x, 25, GO, ASK, GO, ASK);
        x.teach(0, 0, true);
        talksAre("what nobody knew", x, 0);
    }

    private static void noOneAhead() {
        S.by("or, if it was QUIET: SAY of a FACT, ASK of a FACT (which can be, as above), or nothing");
        TailSpeaks x = kept(WISE + "row 0 2;row 1 0 1;");
        saw(x, NONE, NONE, 2, NONE);
        talksAre("alone", x, 1, NOTHING, NOTHING, GO, NOTHING);
        x = kept(WISE + "row 1 0 1 2;");
        saw(x, NONE, NONE);
        talksAre("nobody is in row 0", x, 1, NOTHING, NOTHING);
        for (int f = 0; f < 4; f++) {
            x = kept("person plain 1 " + f + ";row 0 0;");
            x.saw(NONE);
            talksAre("alone with fact " + f, x, 1, NOTHING);
        }
    }

    private static void theSixth() {
        S.by("GO of him (he is in ROW 0)");
        TailSpeaks x = kept(House.SIX + "row 0 5 4 3 2 1 0;");
        saw(x, 5, 4, 3, 2, 1);
        talksAre("six in the row", x, 1, GO, GO, GO, GO, GO);
        x.forget();
        saw(x, 5, NONE);
        x.teach(5, 0, true);
        // 4 3 2 1 0 5: he asks 0, who is ahead of him
        talksAre("six in the row", x, 1, GO, ASK);
    }

    private static void going() {
        S.by("for each of SEEN, one behind another: GO of him (he is in ROW 0)");
        String three = "person plain 1 0;person plain 1 1;person plain 1 2;row 0 0 1 2;";
        int[][] asked = {{0, 2}, {1, 2}, {2, 1}};
        for (int[] a : asked) {
            TailSpeaks x = kept(three);
            saw(x, a[0], NONE);
            x.teach(a[0], a[1], true);
            talksAre(a[0] + " went and asked " + a[1], x, 1, GO, ASK + a[1]);
            x = kept(three);
            saw(x, a[0], NONE);
            x.teach(a[1], a[0], true);
            talksAre(a[0] + " went and told " + a[1], x, 1, GO, a[0]);
        }
        TailSpeaks x = kept(three);
        saw(x, 2, 2, 0, 0, NONE);
        x.teach(0, 2, true);
        talksAre("again and again", x, 1, GO, GO, GO, GO, 6);
    }

    private static void goingOfOthers() {
        S.by("GO of him (he is in ROW 0)");
        TailSpeaks x = kept(WISE + "row 0 0;row 1 1;");
        x.saw(1);
        talksAre("he is in row 1", x, 0);
        x.forget();
        x.saw(2);
        talksAre("he is in no row", x, 0);
        x.forget();
        saw(x, NONE, 0, 1);
        talksAre("the third of them is in row 1", x, 0);
        x.forget();
        saw(x, 1, NONE, 0);
        talksAre("the first of them is in row 1", x, 0);
        x.forget();
        x.saw(0);
        talksAre("alone he went", x, 1, GO);
        x.change(0);
        talksAre("where he is now is no matter", x, 1, GO);
    }

    private static void theQuickAreSeen() {
        S.by("The quick are seen likewise.");
        TailSpeaks x = kept("person quick 1 0;person quick 1 1;person quick 1;row 0 0 1 2;");
        saw(x, 0, NONE, 1);
        x.teach(2, 0, true);
        talksAre("quick", x, 1, GO, 0, GO);
        x.forget();
        x.saw(NONE);
        talksAre("he did not go if it was quiet", x, 0);
    }

    private static void asItIsNow() {
        S.by("behind all KNOWS of each ONE is as it is now.");
        TailSpeaks x = kept("person plain 1 0;person plain 1;row 0 0 1;");
        saw(x, NONE, NONE);
        // in vain each time: ASK 1, 2, 3 or nothing
        talksAre("as it was", x, 16, 5, 5);
        x.ask(0, 0);
        // ASK 0, then SAY 0, ASK 0 to 3, or nothing; or in vain first, then ASK 0
        talksAre("he asked", x, 10, ASK, 0);
        x.go(0, 0);
        talksAre("where they stand now is no matter", x, 10, ASK, 0);
        x.price(0, 9);
        talksAre("the price is no matter", x, 10, ASK, 0);
        x.teach(1, 1, true);
        talksAre("what nobody knew", x, 0);
    }

    private static void asItIsNowOfAll() {
        S.by("behind all KNOWS of each ONE is as it is now.");
        TailSpeaks x = kept(WISE + "person plain 0;row 0 0 1;row 1 2;");
        x.saw(NONE);
        S.is("as it was", x.talks(0, 0), 9);
        for (int p = 0; p < 4; p++) {
            for (int f = 0; f < 4; f++) {
                int knew = x.teach(p, f, p == 3);
                S.is(p + " knows otherwise", x.talks(0, 0), 0);
                S.is(p + " knows otherwise", x.talks(0, 10), NONE);
                x.teach(p, f, knew == 1);
            }
        }
        S.is("as it was", x.talks(0, 0), 9);
    }

    private static void manyTalks() {
        S.by("TALKS from IMAGE k: how many (what 0)");
        TailSpeaks x = kept(WISE + "row 0 0 1 2;");
        int many = 1;
        for (int i = 1; i <= 5; i++) {
            x.saw(NONE);
            many *= 9;
            S.is(i + " minutes", x.talks(0, 0), many);
        }
        x.forget();
        saw(x, NONE, 0, NONE, 1, NONE);
        S.is("three of them quiet", x.talks(0, 0), 729);
    }

    private static void theFirstTalk() {
        S.by("what was done in MINUTE i of the first one by ACTS: 0 to 3 SAY that FACT, 4 to 7 ASK (FACT and 4), 8 nothing, 9 GO.");
        TailSpeaks x = kept("person plain 1;person plain 1 3;row 0 0 1;");
        saw(x, NONE, NONE, NONE);
        x.teach(0, 3, true);
        // in vain: ASK 0 to 3, nothing: 5. Behind SAY 3: SAY 3, ASK 0 to 3, nothing: 6
        talksAre("said", x, 6 * 6 + 5 * 6 + 5 * 5, 3, 3, 3);
        x = kept("person plain 1 2;person plain 1;row 0 0 1;");
        saw(x, NONE, NONE);
        x.teach(1, 2, true);
        // ASK 0 in vain, then ASK 2, is ahead of ASK 2 at first
        talksAre("asked in vain first", x, 10, ASK, 6);
        x = kept("person mute 1 2;person mute 1;row 0 0 1;");
        saw(x, NONE, 0, NONE);
        talksAre("mutes", x, 1, NOTHING, GO, NOTHING);
    }

    private static void noneFits() {
        S.by("NONE (10 and i): there is none.");
        TailSpeaks x = kept("person plain 1;person plain 1;row 0 0 1;");
        saw(x, NONE, 0, NONE);
        x.teach(0, 0, true);
        S.is("how many", x.talks(0, 0), 0);
        for (int i = 0; i < 3; i++) S.is("minute " + i, x.talks(0, 10 + i), NONE);
        S.is("a minute more", x.talks(0, 13), BAD);
    }

    private static void noMinuteLikeThat() {
        S.by("BAD (also i no less than SEEN)");
        TailSpeaks x = kept(WISE + "row 0 0 1 2;");
        for (int many = 0; many <= 5; many++) {
            for (int i = 0; i < 7; i++) S.is(i + " of " + many, x.talks(0, 10 + i) == BAD ? 1 : 0, i < many ? 0 : 1);
            x.saw(NONE);
        }
        int[] far = {-1, -10, 1, 2, 9, 15, 16, 100, MIN, MAX};
        for (int what : far) S.is("what " + what, x.talks(0, what), BAD);
        int[] ks = {-1, 2, 3, MIN, MAX};
        for (int k : ks) S.is("k " + k, x.talks(k, 0), BAD);
        S.is("ahead of no image", x.talks(1, 15), BAD);
    }

    private static void noSuchImage() {
        S.by("STATE: there is no such IMAGE, ROW 0 is a RING in it");
        TailSpeaks x = Due.told(WISE + "row 0 0 1 2;");
        x.saw(NONE);
        for (int k = 0; k < 2; k++) {
            S.is("none is kept", x.talks(k, 0), STATE);
            S.is("none is kept", x.talks(k, 10), STATE);
        }
        x.keep(1);
        S.is("kept", x.talks(1, 0), 9);
        S.is("the other", x.talks(0, 0), STATE);
        Due.tell(x, WISE + "row 0 0 1 2;");
        S.is("gone by a text", x.talks(1, 0), STATE);
        S.is("a new object", new TailSpeaks().talks(0, 0), STATE);
    }

    private static void aRingInIt() {
        S.by("STATE: there is no such IMAGE, ROW 0 is a RING in it");
        TailSpeaks x = Due.told(WISE + "row 0 0 1;row 1 2;ring 0;");
        x.saw(NONE);
        x.keep(0);
        S.is("a ring", x.talks(0, 0), STATE);
        S.is("a ring", x.talks(0, 10), STATE);
        x.cut(0, 1);
        S.is("it is none now, but in the image", x.talks(0, 0), STATE);
        x.ring(1);
        x.keep(1);
        S.is("row 1 is a ring in it", x.talks(1, 0), 9);
        x.ring(0);
        S.is("it is one now, not in the image", x.talks(1, 0), 9);
        x.teach(2, 0, false);
        S.is("a ring, and none would fit", x.talks(0, 10), STATE);
        S.is("none fits", x.talks(1, 10), NONE);
    }

    private static void keeping() {
        S.by("IMAGE k (0, 1) is all of PEOPLE, ROWS, THE HOUR: whether there was one (1, 0).");
        TailSpeaks x = new TailSpeaks();
        for (int k = 0; k < 2; k++) {
            S.is("keep " + k + ", nobody", x.keep(k), 0);
            S.is("keep " + k + " again", x.keep(k), 1);
            S.is("images", x.count(3), k + 1);
        }
        for (int k = 0; k < 2; k++) S.is("back " + k, x.back(k), 0);
        Due.tell(x, WISE);
        S.is("gone by a text", x.keep(1), 0);
        S.is("the one alone", x.count(3), 1);
        S.is("the other", x.back(0), STATE);
    }

    private static void goingBack() {
        S.by("All is as IMAGE k: THE HOUR.");
        String[] rows = {"row 0 5 4 3 2 1 0;", "row 0 0 1;row 1 5 4 3;ring 1;", "", "ring 0;row 1 0 1 2 3 4 5;"};
        for (String row : rows) {
            TailSpeaks x = Due.told(House.SIX + row);
            x.go(0, 0);
            java.util.List<Integer> was = House.look(x);
            x.keep(1);
            was.set(9, 1);
            for (int p = 0; p < 6; p++) {
                x.teach(p, 3, x.one(p, 2) < 8);
                x.price(p, 8);
            }
            x.ring(0);
            x.ring(1);
            x.lot(0, 5);
            x.lot(1, 5);
            for (int i = 0; i < 6; i++) x.serve(i % 2);
            for (int p = 0; p < 6; p++) x.come(p, 0);
            S.is("back", x.back(1), was.get(1));
            S.same("all is as it was", House.look(x), was);
            x.serve(0);
            x.serve(1);
            x.back(1);
            S.same("and again", House.look(x), was);
        }
    }

    private static void backAndForth() {
        S.by("All is as IMAGE k: THE HOUR.");
        TailSpeaks x = Due.told(WISE + "row 0 0 1 2;");
        x.keep(0);
        x.go(0, 0);
        x.go(0, 0);
        x.keep(1);
        x.saw(1);
        x.feed(0);
        S.is("back 0", x.back(0), 0);
        S.rowIs("back 0", x, 0, "012");
        S.is("back 1", x.back(1), 2);
        S.rowIs("back 1", x, 0, "201");
        S.is("what was seen is not of that", x.count(2), 1);
        S.is("the tape is not of that", x.count(4), 8);
        S.is("images stay", x.count(3), 2);
        x.serve(0);
        S.is("keep over it", x.keep(0), 1);
        S.is("back 1", x.back(1), 2);
        S.is("back 0", x.back(0), 3);
        S.rowIs("back 0", x, 0, "01");
        S.by("BAD; STATE: there is none.");
        int[] ks = {-1, 2, MIN, MAX};
        for (int k : ks) {
            S.is("back " + k, x.back(k), BAD);
            S.is("keep " + k, x.keep(k), BAD);
        }
        S.is("a new object", new TailSpeaks().back(0), STATE);
        S.is("a new object", new TailSpeaks().back(1), STATE);
    }
}
