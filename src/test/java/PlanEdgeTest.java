import java.util.ArrayList;
import java.util.List;
import java.util.Random;

/** Plans: each sentence that names a boundary case (promises 23 to 26). */
public final class PlanEdgeTest {
    private static final int BAD = -1, STATE = -2, NONE = -4;
    private static final int MAX = Integer.MAX_VALUE;
    private static final int MINUTES = 0, GOINGS = 1, COINS = 2;
    private static final int SAY = 0, ASK = 1, GO = 10;
    private static final String THREE = "person plain 1 0;person plain 2;person plain 3;";
    private static final Sentence S = new Sentence();

    public static void main(String[] args) {
        nobodyIsMeant();
        allKnowIt();
        aloneInARow();
        twoInARow();
        kindsOfTwo();
        fiveInARow();
        sixInARow();
        itCanNotBe();
        actsOfThePlan();
        notSoMany();
        cheapest();
        thePricesNow();
        eachPriceMatters();
        aShorterRow();
        fewestActs();
        theFirstByActs();
        whatChangesNothing();
        thePlanIsNotDone();
        whatWasAskedBefore();
        oneLeaves();
        oneTextBehindAnother();
        theDearest();
        theDearestOfSeveral();
        noneIsLatest();
        theBestCut();
        theLeastPlace();
        noneIsBest();
        commonFacts();
        S.end();
    }

    private static void planIs(TailSpeaks x, int r, int f, int some, int how, int cost, int... acts) {
        String call = "plan " + r + " " + f + " " + some + " " + how;
        S.is(call + ": cost", x.plan(r, f, some, how, 0), cost);
        S.is(call + ": acts", x.plan(r, f, some, how, 1), acts.length);
        for (int i = 0; i < acts.length; i++) S.is(call + ": act " + i, x.plan(r, f, some, how, 10 + i), acts[i]);
        S.is(call + ": an act more", x.plan(r, f, some, how, 10 + acts.length), NONE);
    }

    private static void noPlan(TailSpeaks x, int r, int f, int some) {
        for (int how = 0; how < 3; how++) {
            int[] whats = {0, 1, 10, 11, MAX};
            for (int what : whats) S.is("plan " + f + " " + some + " " + how + " " + what, x.plan(r, f, some, how, what), NONE);
        }
    }

    private static void nobodyIsMeant() {
        S.by("a row of ACTS (SAY, ASK of that FACT, GO) behind which all of these KNOW it, with the least cost");
        String[] rows = {"", "row 0 1;", "row 0 1 2;", "row 0 5 4 3 2 1;"};
        for (String row : rows) {
            TailSpeaks x = Due.told(House.SIX + row);
            for (int f = 0; f < 4; f++) for (int how = 0; how < 3; how++) planIs(x, 0, f, 0, how, 0);
        }
        planIs(new TailSpeaks(), 1, 3, 0, COINS, 0);
    }

    private static void allKnowIt() {
        S.by("a row of ACTS (SAY, ASK of that FACT, GO) behind which all of these KNOW it, with the least cost");
        TailSpeaks x = Due.told(House.SIX + "row 0 5 4 3 2 0;");
        for (int how = 0; how < 3; how++) {
            planIs(x, 0, 0, 1, how, 0);
            planIs(x, 0, 0, 17, how, 0);
            planIs(x, 0, 1, 4, how, 0);
        }
    }

    private static void aloneInARow() {
        S.by("An ACT that can not be (SAY by one who does not KNOW it or is mute, ASK by a mute one, no ONE AHEAD) is not in it");
        for (int r = 0; r < 2; r++) {
            TailSpeaks x = Due.told("person plain 1 0;person plain 1 1;row " + r + " 0;row " + (1 - r) + " 1;");
            planIs(x, r, 0, 1, MINUTES, 0);
            noPlan(x, r, 1, 1);
        }
    }

    private static void twoInARow() {
        S.by("behind which all of these KNOW it, with the least cost: by HOW: 0 MINUTES, 1 GOINGS (each GO 1, SAY and ASK 0), 2 COINS (each GO the PRICE of who goes, SAY and ASK 0)");
        TailSpeaks x = Due.told("person plain 4 0;person plain 7;row 1 0 1;");
        planIs(x, 1, 0, 3, MINUTES, 1, ASK);
        planIs(x, 1, 0, 3, GOINGS, 0, ASK);
        planIs(x, 1, 0, 3, COINS, 0, ASK);
        x.go(1, 0);
        planIs(x, 1, 0, 3, MINUTES, 1, SAY);
        planIs(x, 1, 0, 3, GOINGS, 0, SAY);
        planIs(x, 1, 0, 3, COINS, 0, SAY);
        x.change(1);
        noPlan(x, 1, 0, 2);
    }

    /** What must be done by two of which the one at the front knows it, or the last. */
    private static void kindsOfTwo() {
        S.by("An ACT that can not be (SAY by one who does not KNOW it or is mute, ASK by a mute one, no ONE AHEAD) is not in it");
        for (int knower = 0; knower < 5; knower++) {
            for (int other = 0; other < 5; other++) {
                String people = "person " + House.KINDS[knower] + " 4 2;person " + House.KINDS[other] + " 7;";
                boolean asked = knower != 2 && other != 4;
                boolean said = knower != 2 && knower != 4 && other != 3;
                TailSpeaks x = Due.told(people + "row 0 0 1;");
                int free = knower == 1 ? 0 : 1;
                if (asked) planIs(x, 0, 2, 3, MINUTES, 1, ASK);
                else if (said) planIs(x, 0, 2, 3, MINUTES, 1 + free, GO, SAY);
                else noPlan(x, 0, 2, 3);
                if (asked) planIs(x, 0, 2, 2, COINS, 0, ASK);
                else if (said) planIs(x, 0, 2, 2, COINS, 4, GO, SAY);
                x = Due.told(people + "row 0 1 0;");
                int quick = other == 1 ? 0 : 1;
                if (said) planIs(x, 0, 2, 3, MINUTES, 1, SAY);
                else if (asked) planIs(x, 0, 2, 3, MINUTES, 1 + quick, GO, ASK);
                else noPlan(x, 0, 2, 2);
                if (said) planIs(x, 0, 2, 2, GOINGS, 0, SAY);
                else if (asked) planIs(x, 0, 2, 2, GOINGS, 1, GO, ASK);
                if (!said && asked) planIs(x, 0, 2, 2, COINS, 7, GO, ASK);
            }
        }
    }

    private static void fiveInARow() {
        S.by("STATE: a RING, more than 5 are in it");
        String five = "person plain 1 0;person plain 2;person plain 3;person plain 4;person plain 5;person plain 0 1;";
        for (int r = 0; r < 2; r++) {
            TailSpeaks x = Due.told(five + "row " + r + " 0 1 2 3 4;");
            // 0 goes behind and says it to 4; then each other comes and asks who is ahead of him
            planIs(x, r, 0, 31, MINUTES, 8, GO, SAY, GO, ASK, GO, ASK, GO, ASK);
            planIs(x, r, 0, 31, GOINGS, 4, GO, SAY, GO, ASK, GO, ASK, GO, ASK);
            planIs(x, r, 0, 31, COINS, 1 + 2 + 3 + 4, GO, SAY, GO, ASK, GO, ASK, GO, ASK);
            S.is("the sixth is not in it", x.plan(r, 0, 32, 0, 0), BAD);
        }
    }

    private static void sixInARow() {
        S.by("STATE: a RING, more than 5 are in it");
        for (int r = 0; r < 2; r++) {
            TailSpeaks x = Due.told(House.SIX + "row " + r + " 0 1 2 3 4 5;");
            for (int what = 0; what < 11; what++) {
                if (what < 2 || what > 9) S.is("plan of six", x.plan(r, 0, 1, 0, what), STATE);
            }
            S.is("of nobody", x.plan(r, 0, 0, 0, 0), STATE);
            S.is("latest of six", x.latest(r, 0, 0), STATE);
            S.is("common of six", x.common(r), STATE);
            S.is("the other row", x.common(1 - r), 15);
            x.ring(r);
            S.is("steer of six", x.steer(r, 0, 0), STATE);
            x.cut(r, 5);
            x.serve(r);
            S.is("plan of five", x.plan(r, 0, 0, 0, 0), 0);
            S.is("latest of five", x.latest(r, 0, 1) > 0 ? 1 : 0, 1);
            S.is("common of five", x.common(r), 13);
            x.ring(r);
            S.is("steer of five", x.steer(r, 0, 1) > 0 ? 1 : 0, 1);
        }
    }

    private static void itCanNotBe() {
        S.by("NONE: it can not be");
        TailSpeaks x = Due.told(THREE + "person plain 1 1;row 0 0 1 2;row 1 3;");
        for (int p = 0; p < 3; p++) noPlan(x, 0, 1, 1 << p);
        noPlan(x, 0, 3, 7);
        noPlan(Due.told("person liar 1 0;person plain 1;person plain 1;row 0 0 1 2;"), 0, 0, 4);
        noPlan(Due.told("person mute 1 0;person mute 1;person mute 1;row 0 0 1 2;"), 0, 0, 6);
        // a mute one can be told, but a deaf one, who must ask, can not ask a liar
        noPlan(Due.told("person deaf 1;person liar 1 0;row 0 0 1;"), 0, 0, 1);
        x = Due.told("person liar 1 0;person mute 1;person plain 1;row 0 0 1 2;");
        noPlan(x, 0, 0, 2);
        planIs(x, 0, 0, 1, MINUTES, 0);
        noPlan(x, 0, 0, 3);
    }

    private static void actsOfThePlan() {
        S.by("10 and i: ACT i: 0 SAY, 1 ASK, 10 and a PLACE: GO.");
        // only the one at place 1, 2, 3 knows it, and the last shall
        for (int place = 0; place < 4; place++) {
            StringBuilder people = new StringBuilder();
            for (int p = 0; p < 5; p++) people.append("person plain 1").append(p == place ? " 1;" : ";");
            TailSpeaks x = Due.told(people + "row 0 0 1 2 3 4;");
            if (place < 3) planIs(x, 0, 1, 16, MINUTES, 2, GO + place, SAY);
            else planIs(x, 0, 1, 16, MINUTES, 1, ASK);
        }
        TailSpeaks x = Due.told("person plain 1 0;person deaf 1;person mute 1;person mute 1;person mute 1;row 0 0 2 3 1 4;");
        planIs(x, 0, 0, 2, GOINGS, 2, GO, GO + 2, ASK);
    }

    private static void notSoMany() {
        S.by("it has not so many (10 and i)");
        TailSpeaks x = Due.told(THREE + "row 0 0 1 2;");
        int[] far = {12, 13, 20, 40, 1000, 4106, MAX};
        for (int what : far) S.is("an act " + what, x.plan(0, 0, 4, 0, what), NONE);
        S.is("the last act", x.plan(0, 0, 4, 0, 11), SAY);
        S.is("of a plan of no acts", x.plan(0, 0, 1, 0, 10), NONE);
        S.by("BAD; STATE: a RING, more than 5 are in it; NONE: it can not be; it has not so many (10 and i).");
        for (int what = 2; what < 10; what++) S.is("what " + what, x.plan(0, 0, 4, 0, what), BAD);
    }

    private static void cheapest() {
        S.by("by HOW: 0 MINUTES, 1 GOINGS (each GO 1, SAY and ASK 0), 2 COINS (each GO the PRICE of who goes, SAY and ASK 0)");
        // 0 and 1 know it, and 3 shall: 0 is dear, 1 is not
        TailSpeaks x = Due.told("person plain 9 0;person plain 0 0;person plain 1;person plain 1;row 0 0 1 2 3;");
        planIs(x, 0, 0, 8, MINUTES, 2, GO, SAY);
        planIs(x, 0, 0, 8, GOINGS, 1, GO, SAY);
        planIs(x, 0, 0, 8, COINS, 0, GO + 1, SAY);
        // 0 goes for 9 and says it, or the mute 1, whom 3 must ask, for 0: more acts, less cost
        x = Due.told("person plain 9 0;person mute 0 0;person plain 0;person plain 0;row 0 0 1 2 3;");
        planIs(x, 0, 0, 8, MINUTES, 2, GO, SAY);
        planIs(x, 0, 0, 8, COINS, 0, GO + 1, GO + 2, ASK);
        // the quick go for no minute, but for a going and their price
        x = Due.told("person quick 9 0;person plain 1;person plain 1;row 0 0 1 2;");
        planIs(x, 0, 0, 4, MINUTES, 1, GO, SAY);
        planIs(x, 0, 0, 4, GOINGS, 1, GO, SAY);
        planIs(x, 0, 0, 4, COINS, 9, GO, SAY);
    }

    private static void thePricesNow() {
        S.by("2 COINS (each GO the PRICE of who goes, SAY and ASK 0)");
        TailSpeaks x = Due.told("person plain 5 0;person mute 5 0;person plain 5;person plain 5;row 0 0 1 2 3;");
        planIs(x, 0, 0, 8, COINS, 5, GO, SAY);
        x.price(0, 9);
        planIs(x, 0, 0, 8, COINS, 9, GO, SAY);
        x.price(1, 3);
        planIs(x, 0, 0, 8, COINS, 8, GO + 1, GO + 2, ASK);
        x.price(3, 0);
        planIs(x, 0, 0, 8, COINS, 3, GO + 1, GO + 2, ASK);
        x.price(0, 0);
        planIs(x, 0, 0, 8, COINS, 0, GO, SAY);
        planIs(x, 0, 0, 8, MINUTES, 2, GO, SAY);
        S.by("A PLAN in a ROW for a FACT and some ONES: a row of ACTS (SAY, ASK of that FACT, GO) behind which all of these KNOW it");
        x.teach(2, 0, true);
        planIs(x, 0, 0, 8, MINUTES, 1, ASK);
        x.teach(3, 0, true);
        planIs(x, 0, 0, 8, MINUTES, 0);
        for (int p = 0; p < 4; p++) x.teach(p, 0, false);
        noPlan(x, 0, 0, 8);
    }

    private static void eachPriceMatters() {
        S.by("2 COINS (each GO the PRICE of who goes, SAY and ASK 0)");
        // the one who knows it goes and says it, and is priced otherwise while he is asked for
        for (int many = 3; many <= 5; many++) {
            for (int place = 0; place < many - 2; place++) {
                StringBuilder people = new StringBuilder(), row = new StringBuilder("row 1");
                for (int p = 0; p < many; p++) {
                    people.append("person plain 0").append(p == place ? " 1;" : ";");
                    row.append(' ').append(p);
                }
                TailSpeaks x = Due.told(people.toString() + row + ";");
                for (int v = 0; v <= 9; v++) {
                    x.price(place, v);
                    planIs(x, 1, 1, 1 << many - 1, COINS, v, GO + place, SAY);
                }
                planIs(x, 1, 1, 1 << many - 1, GOINGS, 1, GO + place, SAY);
                planIs(x, 1, 1, 1 << many - 1, MINUTES, 2, GO + place, SAY);
            }
        }
    }

    private static void aShorterRow() {
        S.by("10 and i: ACT i: 0 SAY, 1 ASK, 10 and a PLACE: GO.");
        // those ahead, who matter in nothing, are served one by one: his place is another then
        TailSpeaks x = Due.told("person plain 0;person plain 0;person plain 0;person deaf 0;person plain 0 0;row 0 0 1 2 3 4;");
        for (int place = 3; place >= 0; place--) {
            planIs(x, 0, 0, 8, COINS, 0, GO + place, ASK);
            planIs(x, 0, 0, 8, MINUTES, 2, GO + place, ASK);
            x.serve(0);
        }
        planIs(x, 0, 0, 16, COINS, 0);
        S.is("he was served", x.plan(0, 0, 8, COINS, 0), BAD);
    }

    private static void fewestActs() {
        S.by("of several with the fewest ACTS");
        // all go for nothing: the plan is as short as it may be all the same
        TailSpeaks x = Due.told("person quick 0 0;person quick 0;person quick 0;person quick 0;person quick 0;row 0 0 1 2 3 4;");
        planIs(x, 0, 0, 16, MINUTES, 1, GO, SAY);
        planIs(x, 0, 0, 16, COINS, 0, GO, SAY);
        planIs(x, 0, 0, 31, COINS, 0, GO, SAY, GO, ASK, GO, ASK, GO, ASK);
        planIs(x, 0, 0, 31, MINUTES, 4, GO, SAY, GO, ASK, GO, ASK, GO, ASK);
    }

    private static void theFirstByActs() {
        S.by("of these the first by ACTS, SAY ahead of ASK ahead of GO 0, GO 1, and so on.");
        // 0 or 1 may go and say it
        TailSpeaks x = Due.told("person plain 2 0;person plain 2 0;person plain 2;person plain 2;row 1 0 1 2 3;");
        for (int how = 0; how < 3; how++) planIs(x, 1, 0, 8, how, how == MINUTES ? 2 : how == GOINGS ? 1 : 2, GO, SAY);
        // ASK, GO 0, ASK is ahead of GO 0, GO 0, SAY
        x = Due.told("person plain 1;person plain 1 0;person plain 1;row 0 0 1 2;");
        planIs(x, 0, 0, 1, MINUTES, 3, ASK, GO, ASK);
        // SAY, GO 0, ASK is ahead of GO 0, ASK, GO 0, ASK; and GO 0, ASK is enough for one alone
        x = Due.told("person plain 1;person plain 1;person plain 1 0;row 0 0 1 2;");
        planIs(x, 0, 0, 3, MINUTES, 3, SAY, GO, ASK);
        planIs(x, 0, 0, 1, MINUTES, 2, GO, ASK);
    }

    private static void whatChangesNothing() {
        S.by("one that changes nothing may.");
        // an act that changes nothing makes a plan longer, so no plan of the fewest acts has one
        TailSpeaks x = Due.told("person quick 0 0;person quick 0 0;row 0 0 1;");
        for (int how = 0; how < 3; how++) planIs(x, 0, 0, 3, how, 0);
        x = Due.told("person plain 0;person quick 0 0;row 0 0 1;");
        for (int how = 0; how < 3; how++) planIs(x, 0, 0, 3, how, how == MINUTES ? 1 : 0, SAY);
    }

    private static void thePlanIsNotDone() {
        S.by("A PLAN for a FACT and some ONES (bits, all of them in that ROW) by HOW: its cost (what 0), how many ACTS (1)");
        TailSpeaks x = House.of(House.SIX + "row 0 0 1 2;row 1 3 4 5;");
        for (int how = 0; how < 3; how++) x.plan(0, 0, 7, how, 10);
        x.latest(1, 0, 0);
        x.common(1);
        S.changesNothing("a plan", x, House.of(House.SIX + "row 0 0 1 2;row 1 3 4 5;"));
        x = Due.told(THREE + "row 0 0 1 2;");
        int acts = x.plan(0, 0, 7, MINUTES, 1);
        for (int i = 0; i < acts; i++) {
            // what is left of a first plan is a first plan
            int act = x.plan(0, 0, 7, MINUTES, 10);
            S.is("left", x.plan(0, 0, 7, MINUTES, 1), acts - i);
            if (act >= GO) x.go(0, act - GO);
            else S.is("it tells", act == SAY ? x.say(0, 0) : x.ask(0, 0), 1);
        }
        S.is("all know it", x.know(0), 7);
        S.is("hour", x.rule(1), 4);
        planIs(x, 0, 0, 7, MINUTES, 0);
    }

    /** An object that was asked much answers as a new one that is told the same. */
    private static void whatWasAskedBefore() {
        S.by("A PLAN in a ROW for a FACT and some ONES");
        Random random = new Random(5);
        for (int run = 0; run < 300; run++) {
            TailSpeaks x = Due.told(run % 3 == 0 ? House.SIX + "row 0 1 2 3 4 5;" : House.SIX + "row 0 0 1 5 4;row 1 3 2;");
            int f = random.nextInt(4), how = random.nextInt(3), some = random.nextInt(32);
            for (int step = 0; step < 6; step++) {
                oneChange(x, random, f);
                TailSpeaks y = Due.told(House.textOf(x));
                int r = random.nextInt(8) == 0 ? 1 : 0;
                if (random.nextInt(3) == 0) some = random.nextInt(64);
                if (random.nextInt(4) == 0) how = random.nextInt(3);
                int in = 0;
                for (int i = 0; i < y.rule(2 + r); i++) in |= 1 << y.at(r, i);
                int[] whats = {10, 0, 1, 11, 12, 13};
                for (int what : whats) {
                    String call = "plan " + r + " " + f + " " + (some & in) + " " + how + " " + what + " in " + House.textOf(y);
                    S.is(call, x.plan(r, f, some & in, how, what), y.plan(r, f, some & in, how, what));
                }
                S.is("latest", x.latest(r, f, 0), y.latest(r, f, 0));
                S.is("steer", x.steer(r, f, 0), y.steer(r, f, 0));
                S.is("common", x.common(r), y.common(r));
            }
        }
    }

    private static void oneChange(TailSpeaks x, Random random, int f) {
        int p = random.nextInt(6);
        switch (random.nextInt(9)) {
            case 0: x.price(p, random.nextInt(10)); break;
            case 1: x.teach(p, f, random.nextBoolean()); break;
            case 2: x.go(0, p); break;
            case 3: x.change(p % 2); break;
            case 4: x.serve(0); break;
            case 5: x.come(p, 0); break;
            case 6: x.ask(0, f); break;
            case 7: x.ring(0); break;
            default: x.cut(0, p); break;
        }
    }

    /** He who alone knows it, or alone can ask and say it, leaves: all else is as it was. */
    private static void oneLeaves() {
        S.by("A PLAN in a ROW for a FACT and some ONES");
        for (int how = MINUTES; how <= COINS; how++) {
            TailSpeaks x = Due.told("person plain 0 0;person plain 0;person plain 0;person plain 0;person plain 0;row 0 0 1 2 3 4;");
            S.is("the front one knows it, by " + how, x.plan(0, 0, 16, how, 1), 2);
            x.serve(0);
            S.is("nobody does, by " + how, x.plan(0, 0, 16, how, 1), NONE);
            x = Due.told("person plain 0;person mute 0 0;person mute 0;row 1 0 1 2;");
            planIs(x, 1, 0, 4, how, how == COINS ? 0 : how == GOINGS ? 4 : 6, GO + 1, GO, ASK, GO, GO + 1, SAY);
            x.serve(1);
            S.is("the mute alone, by " + how, x.plan(1, 0, 4, how, 0), NONE);
        }
        TailSpeaks x = Due.told("person plain 0;person plain 0;person plain 0 0;person plain 0;person plain 0;row 0 0 1 2 3 4;");
        S.is("minutes of five", x.plan(0, 0, 16, MINUTES, 0), 2);
        x.serve(0);
        S.is("goings of four", x.plan(0, 0, 16, GOINGS, 0), 1);
    }

    /** Two of whatever kind, price and knowledge: what was told and asked before does not matter. */
    private static void oneTextBehindAnother() {
        S.by("A text that is taken tells all, in place of what there was");
        List<String> texts = new ArrayList<>();
        for (int a = 0; a < 20; a++) {
            for (int b = 0; b < 20; b++) texts.add(somebody(a) + somebody(b) + "row 0 0 1;");
        }
        for (int how = MINUTES; how <= COINS; how += COINS) {
            int[] costs = new int[texts.size()], lengths = new int[texts.size()];
            for (int i = 0; i < costs.length; i++) {
                TailSpeaks alone = Due.told(texts.get(i));
                costs[i] = alone.plan(0, 0, 3, how, 0);
                lengths[i] = alone.plan(0, 0, 3, how, 1);
            }
            for (int i = 0; i < costs.length; i++) {
                TailSpeaks x = new TailSpeaks();
                for (int j = 0; j < costs.length; j++) {
                    // an object is for 512 calls
                    if (j % 20 == 0) x = new TailSpeaks();
                    Due.tell(x, texts.get(i));
                    x.plan(0, 0, 3, how, 0);
                    Due.tell(x, texts.get(j));
                    String call = texts.get(j) + " behind " + texts.get(i) + " by " + how;
                    S.is(call + ": cost", x.plan(0, 0, 3, how, 0), costs[j]);
                    S.is(call + ": acts", x.plan(0, 0, 3, how, 1), lengths[j]);
                }
            }
        }
    }

    private static String somebody(int n) {
        return "person " + House.KINDS[n / 4] + (n % 2 == 0 ? " 0" : " 1") + (n / 2 % 2 == 0 ? ";" : " 0;");
    }

    private static void theDearest() {
        S.by("PLANS for each ONE of a ROW alone by MINUTES: he whose is the dearest, of several the one at the least PLACE (what 0), its cost (1).");
        TailSpeaks x = Due.told(THREE + "row 1 0 1 2;");
        S.is("1 needs three", x.latest(1, 0, 0), 1);
        S.is("cost", x.latest(1, 0, 1), 3);
        x.go(1, 0);
        // 1 2 0: 2 is told at once, 1 comes and asks
        S.is("1 needs two", x.latest(1, 0, 0), 1);
        S.is("cost", x.latest(1, 0, 1), 2);
        // by minutes, not by goings or coins: the quick asker's going is for nothing
        x = Due.told("person quick 9;person plain 0 0;person plain 0;row 0 2 0 1;");
        S.is("2 goes and asks, 0 is told", x.latest(0, 0, 0), 2);
        S.is("cost", x.latest(0, 0, 1), 2);
        x = Due.told("person quick 9;person plain 0;person plain 0 0;row 0 0 1 2;");
        S.is("both need one minute, 0 is ahead", x.latest(0, 0, 0), 0);
        S.is("cost", x.latest(0, 0, 1), 1);
    }

    private static void theDearestOfSeveral() {
        S.by("of several the one at the least PLACE");
        TailSpeaks x = Due.told("person plain 1 0;person plain 1 0;person plain 1 0;row 0 2 0 1;");
        S.is("all know it", x.latest(0, 0, 0), 2);
        S.is("cost", x.latest(0, 0, 1), 0);
        x = Due.told("person plain 1 0;row 1 0;");
        S.is("one alone", x.latest(1, 0, 0), 0);
        S.is("one alone", x.latest(1, 0, 1), 0);
        // 3 2 1 0, and 0 knows it: 1 is told in one minute, 3 and 2 go and ask in two
        x = Due.told("person plain 1 0;person plain 1;person plain 1;person plain 1;row 0 3 2 1 0;");
        S.is("3 is at the least place, not of the least number", x.latest(0, 0, 0), 3);
        S.is("cost", x.latest(0, 0, 1), 2);
    }

    private static void noneIsLatest() {
        S.by("NONE: for one it can not be, nobody is there.");
        TailSpeaks x = Due.told("person plain 1 0;person plain 1;person deaf 1;person mute 1 1;row 0 0 1;row 1 2 3;");
        for (int what = 0; what < 2; what++) {
            S.is("none knows it", x.latest(0, 1, what), NONE);
            S.is("nobody", new TailSpeaks().latest(1, 0, what), NONE);
            S.is("2 must go and ask the mute", x.latest(1, 1, what), 2);
        }
        x = Due.told("person liar 1 0;person plain 1;row 0 0 1;");
        for (int what = 0; what < 2; what++) S.is("by a liar, for the last of them", x.latest(0, 0, what), NONE);
        x.go(0, 0);
        for (int what = 0; what < 2; what++) S.is("by a liar, for the first of them", x.latest(0, 0, what), NONE);
    }

    private static void theBestCut() {
        S.by("A RING: the PLACE at which a CUT makes a PLAN for all of them by MINUTES cheapest, of several the least (what 0), its cost (1).");
        // of five the one who knows it stands last and says it, or next to the last, who asks; then three come and ask
        for (int r = 0; r < 2; r++) {
            for (int knower = 0; knower < 5; knower++) {
                StringBuilder people = new StringBuilder();
                for (int p = 0; p < 5; p++) people.append("person plain 9").append(p == knower ? " 3;" : ";");
                TailSpeaks x = Due.told(people + "row " + r + " 0 1 2 3 4;ring " + r + ";");
                S.is("cut at " + knower, x.steer(r, 3, 0), knower == 4 ? 0 : knower);
                S.is("cost", x.steer(r, 3, 1), 7);
                S.rowIs("it is not cut", x, r, "01234");
                S.is("it is a ring yet", x.rule(4 + r), 1);
            }
        }
    }

    private static void theLeastPlace() {
        S.by("of several the least");
        TailSpeaks x = Due.told("person plain 9 0;person plain 9 0;person plain 9 0;row 0 0 1 2;ring 0;");
        S.is("all know it", x.steer(0, 0, 0), 0);
        S.is("all know it", x.steer(0, 0, 1), 0);
        x = Due.told("person plain 9 0;person plain 9;row 0 0 1;ring 0;");
        S.is("said or asked", x.steer(0, 0, 0), 0);
        S.is("said or asked", x.steer(0, 0, 1), 1);
        x = Due.told("person plain 9 0;row 0 0;ring 0;");
        S.is("one alone", x.steer(0, 0, 0), 0);
        S.is("one alone", x.steer(0, 0, 1), 0);
        // a deaf one must ask: he is the last at place 1
        x = Due.told("person plain 9 0;person deaf 9;row 0 0 1;ring 0;");
        S.is("the deaf one last", x.steer(0, 0, 0), 1);
        S.is("the deaf one last", x.steer(0, 0, 1), 1);
    }

    private static void noneIsBest() {
        S.by("NONE: by none it can be, nobody is there.");
        TailSpeaks x = Due.told("person liar 9 0;person plain 9 1;row 0 0 1;ring 0;ring 1;");
        for (int what = 0; what < 2; what++) {
            S.is("by a liar", x.steer(0, 0, what), NONE);
            S.is("none knows it", x.steer(0, 2, what), NONE);
            S.is("nobody is there", x.steer(1, 0, what), NONE);
            S.is("by the other", x.steer(0, 1, what), what == 0 ? 0 : 1);
        }
        x = Due.told("person plain 9;row 1 0;ring 1;");
        S.is("one alone, who does not know it", x.steer(1, 0, 0), NONE);
    }

    private static void commonFacts() {
        S.by("FACTS (bits) for which there is a PLAN for all of a ROW (nobody there: all FACTS).");
        S.is("nobody", new TailSpeaks().common(0), 15);
        S.is("nobody", new TailSpeaks().common(1), 15);
        S.is("none is known", Due.told("person plain 1;row 0 0;").common(0), 0);
        S.is("all are known", Due.told("person plain 1 0 1 2 3;row 0 0;").common(0), 15);
        TailSpeaks x = Due.told("person plain 1 0;person liar 1 1;person mute 1 2;person deaf 1 3;person quick 1;row 0 0 1 2 3 4;");
        S.is("not by the liar", x.common(0), 13);
        x = Due.told("person mute 1 2;person mute 1 2 3;row 1 0 1;");
        S.is("what two mutes know both", x.common(1), 4);
        x = Due.told("person liar 1 1;person liar 1 1 0;row 1 0 1;");
        S.is("what two liars know both", x.common(1), 2);
        x = Due.told("person deaf 1;person mute 1 0;person mute 1 1;row 1 0 1 2;");
        // the deaf one asks, and says to each mute what the other knows
        S.is("by the deaf one", x.common(1), 3);
        x = Due.told("person plain 1 0;person plain 1 1;row 0 0;row 1 1;");
        S.is("who is in another row", x.common(0), 1);
        S.is("who is in another row", x.common(1), 2);
    }
}
