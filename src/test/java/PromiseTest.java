/** Each promise of the document by hand: ordinary inputs, edges, wrong inputs. */
public final class PromiseTest {
    private static final int BAD = -1, STATE = -2, FULL = -3, NONE = -4;
    private static final int MIN = Integer.MIN_VALUE, MAX = Integer.MAX_VALUE;
    /** One of each kind; the fact 0 is with the plain one, 1 with the liar. */
    private static final String FIVE = "person plain 3 0;person quick 5;person liar 1 1;person deaf 9;person mute 4;";
    private static final String THREE = "person plain 1 0;person plain 2;person plain 3;row 0 0 1 2;";
    private static final Due DUE = new Due();
    private static int promise;

    private static void is(String call, long got, long want) {
        DUE.is("promise " + promise + ": " + call, got, want);
    }

    public static void main(String[] args) {
        news();
        feeds();
        ends();
        texts();
        faults();
        rules();
        ones();
        ats();
        knows();
        says();
        asks();
        goes();
        changes();
        serves();
        comes();
        splits();
        joins();
        rings();
        cuts();
        lots();
        teaches();
        prices();
        plans();
        latests();
        steers();
        commons();
        saws();
        forgets();
        talks();
        keeps();
        backs();
        sheets();
        lays();
        reads();
        torns();
        counts();
        DUE.end();
    }

    /** What can be asked of the people and rows, as one number. */
    private static long look(TailSpeaks x) {
        long h = 7;
        for (int w = 0; w < 6; w++) h = h * 31 + x.rule(w);
        for (int p = 0; p < 6; p++) for (int w = 0; w < 5; w++) h = h * 31 + x.one(p, w);
        return h;
    }

    private static String row(TailSpeaks x, int r) {
        StringBuilder b = new StringBuilder();
        for (int i = 0; i < x.rule(2 + r); i++) b.append(x.at(r, i));
        return b.toString();
    }

    private static void rowIs(String call, TailSpeaks x, int r, String want) {
        is(call + ": row " + r + " " + row(x, r) + " should be " + want, row(x, r).equals(want) ? 1 : 0, 1);
    }

    private static void news() {
        promise = 1;
        TailSpeaks x = new TailSpeaks();
        for (int w = 0; w < 6; w++) is("rule", x.rule(w), 0);
        for (int w = 0; w < 5; w++) is("count", x.count(w), 0);
        is("count(5)", x.count(5), NONE);
        is("fault", x.fault(), 0);
        is("torn", x.torn(), 0);
        for (int k = 0; k < 4; k++) is("lay", x.lay(k, 0, 0), -11);
        is("one", x.one(0, 0), BAD);
        is("back", x.back(0), STATE);
        is("know", x.know(0), 0);
    }

    private static void feeds() {
        promise = 2;
        TailSpeaks x = new TailSpeaks();
        for (int i = 1; i <= 40; i++) is("feed", x.feed(0x2020202020202020L), 8 * i);
        is("feed", x.feed(0), FULL);
        is("count", x.count(4), 320);
        is("a tape of blanks", x.text(), 0);
        x.feed(0x72696e6720313b20L);
        is("the highest byte is the first: 'ring 1; '", x.text(), 1);
        is("ring", x.rule(5), 1);
        for (int i = 0; i < 40; i++) x.feed(0);
        x.end(313);
        is("313 and 8", x.feed(0), FULL);
        x.end(312);
        is("312 and 8", x.feed(0), 320);
        x.end(0);
        x.feed(-1L);
        is("bytes above 127 are no tokens", x.text(), -10);
        is("fault", x.fault(), 1);
    }

    private static void ends() {
        promise = 3;
        TailSpeaks x = new TailSpeaks();
        is("end(0)", x.end(0), 0);
        is("end(1)", x.end(1), BAD);
        x.feed(0x72696e6720303b3bL);
        is("end(9)", x.end(9), BAD);
        is("end(-1)", x.end(-1), BAD);
        is("end(MIN)", x.end(MIN), BAD);
        is("end(MAX)", x.end(MAX), BAD);
        is("end(8)", x.end(8), 8);
        is("end(7)", x.end(7), 8);
        is("end(8)", x.end(8), BAD);
        is("the first bytes: 'ring 0;'", x.text(), 1);
        x.feed(0x7a7a7a7a7a7a7a7aL);
        x.end(0);
        x.feed(0x72696e6720303b20L);
        is("what comes then stands at 0", x.text(), 1);
        x.feed(0x72696e6772696e67L);
        x.end(4);
        is("'ring', not 'ringring'", x.text(), -14);
        x.feed(0x72696e6720313131L);
        x.end(7);
        is("'ring 11', not 'ring 111'", x.text(), -15);
        is("out of its bounds", x.fault(), 3);
    }

    private static void texts() {
        promise = 4;
        TailSpeaks x = new TailSpeaks();
        is("lines", Due.tell(x, FIVE + "row 1 4 2;ring 1;row 0 0;"), 8);
        is("tape", x.count(4), 0);
        rowIs("text", x, 0, "0");
        rowIs("text", x, 1, "42");
        is("ring", x.rule(5), 1);
        x.serve(0);
        x.saw(NONE);
        x.keep(0);
        x.sheet(0, 2, 3);
        long was = look(x);
        is("a fault", Due.tell(x, "person plain 1;row 0 1;"), -10 - 23);
        is("what was told stays", look(x), was);
        is("seen stays", x.count(2), 1);
        is("images stay", x.count(3), 1);
        is("tape is empty", x.count(4), 0);
        is("rows ahead of their people", Due.tell(x, "ring 0;row 0 0;person quick 09 03 00;"), 3);
        is("hour", x.rule(1), 0);
        is("seen", x.count(2), 0);
        is("images", x.count(3), 0);
        is("sheets stay", x.count(5), 3);
        is("kind", x.one(0, 0), 1);
        is("price 09", x.one(0, 1), 9);
        is("facts 03 00", x.one(0, 2), 9);
        is("ring told first", x.rule(4), 1);
        is("no blanks where none are needed", Due.tell(x, "person mute1 2;row0 0;"), 2);
        is("nobody is told", Due.tell(x, ""), 0);
        is("nobody", x.rule(0), 0);
        is("no ring", x.rule(4), 0);
        is("row", x.rule(2), 0);
    }

    private static void told(String text, int place, int fault) {
        TailSpeaks x = Due.told(THREE);
        long was = look(x);
        is("'" + text + "'", Due.tell(x, text), -10 - place);
        is("fault of '" + text + "'", x.fault(), fault);
        is("'" + text + "' changes nothing", look(x), was);
        is("tape", x.count(4), 0);
        Due.tell(x, "");
        is("fault behind a text that is taken", x.fault(), 0);
    }

    private static void faults() {
        promise = 5;
        told("!", 0, 1);
        told("  Person plain 1;", 2, 1);
        told("ring\t0;", 4, 1);
        told("ring 100;", 5, 1);
        told("ring 000;", 5, 1);
        told("100", 0, 1);
        told("ring 0 ,", 7, 1);
        told("ring 0;-", 7, 1);
        told(";", 0, 2);
        told("12", 0, 2);
        told("rings 0;", 0, 2);
        told("zoo 0;", 0, 2);
        told("amaze 0;", 0, 2);
        told("plain 0;", 0, 2);
        told("queue !", 0, 2);
        told("person", 6, 2);
        told("person   ", 9, 2);
        told("person person 1;", 7, 2);
        told("person 1;", 7, 2);
        told("person plains 1;", 7, 2);
        told("person plain;", 12, 2);
        told("person plain 1 row 0 0;", 15, 2);
        told("person plain 1", 14, 2);
        told("row;", 3, 2);
        told("row 0;", 5, 2);
        told("row 0 ring 0;", 6, 2);
        told("ring;", 4, 2);
        told("ring 0 0;", 7, 2);
        told("ring 0 ", 7, 2);
        told("person plain 10;", 13, 3);
        told("person plain 99;", 13, 3);
        told("person plain 1 4;", 15, 3);
        told("person plain 1 0 1 2 3 4;", 23, 3);
        told("row 2 0;", 4, 3);
        told("row 0 6;", 6, 3);
        told("row 0 0 1 2 3 4 5 6;", 18, 3);
        told("ring 2;", 5, 3);
        told("ring 2 !", 5, 3);
        told("person plain 1 3 3;", 17, 4);
        told("person plain 1 0 1 2 3 0;", 23, 4);
        told("row 0 0 0;", 8, 4);
        told("row 0 0 1 2 3 4 5 5;", 18, 4);
        told("row 1 0;row 1 1;", 12, 4);
        told("row 1 0;row 0 0;", 14, 4);
        told("ring 1;ring 1;", 12, 4);
        told("ring 1;row 1 0;ring 1 !", 20, 4);
        String six = "person mute 1;person mute 1;person mute 1;person mute 1;person mute 1;person mute 1;";
        told(six + "person mute 1;", 84, 5);
        told(six + "ring 0; person !", 92, 5);
        told("row 0 0;", 8, 6);
        told("person plain 1;row 1 5;  ", 25, 6);
        told("person plain 1;row 1 5;ring 3;", 28, 3);
        is("six are taken", Due.told(six + "row 0 5;").rule(0), 6);
    }

    private static void rules() {
        promise = 6;
        TailSpeaks x = Due.told(FIVE + "row 0 0 3 4;row 1 1 2;ring 1;");
        x.go(0, 0);
        int[] want = {5, 1, 3, 2, 0, 1};
        for (int w = 0; w < 6; w++) is("rule", x.rule(w), want[w]);
        is("rule(-1)", x.rule(-1), BAD);
        is("rule(6)", x.rule(6), BAD);
        x.ring(0);
        is("rule(4)", x.rule(4), 1);
    }

    private static void ones() {
        promise = 7;
        TailSpeaks x = Due.told("person plain 3 0;person quick 5;person liar 1 1 3;person deaf 9 2;person mute 0 0 1 2 3;row 0 3 1;row 1 4;");
        int[][] want = {{0, 3, 1, NONE, NONE}, {1, 5, 0, 0, 1}, {2, 1, 10, NONE, NONE}, {3, 9, 4, 0, 0}, {4, 0, 15, 1, 0}};
        for (int p = 0; p < 5; p++) for (int w = 0; w < 5; w++) is("one(" + p + ", " + w + ")", x.one(p, w), want[p][w]);
        is("one(5, 0)", x.one(5, 0), BAD);
        is("one(-1, 0)", x.one(-1, 0), BAD);
        is("one(0, 5)", x.one(0, 5), BAD);
        is("one(0, -1)", x.one(0, -1), BAD);
        is("one(MAX, 3)", x.one(MAX, 3), BAD);
    }

    private static void ats() {
        promise = 8;
        TailSpeaks x = Due.told(FIVE + "row 0 4 0;row 1 2;ring 1;");
        is("at(0, 0)", x.at(0, 0), 4);
        is("at(0, 1)", x.at(0, 1), 0);
        is("at(1, 0)", x.at(1, 0), 2);
        is("at(0, 2)", x.at(0, 2), BAD);
        is("at(1, 1)", x.at(1, 1), BAD);
        is("at(0, -1)", x.at(0, -1), BAD);
        is("at(2, 0)", x.at(2, 0), BAD);
        is("at(-1, 0)", x.at(-1, 0), BAD);
        is("at(MAX, MAX)", x.at(MAX, MAX), BAD);
    }

    private static void knows() {
        promise = 9;
        TailSpeaks x = Due.told("person plain 3 0;person quick 5;person liar 1 1 3;person deaf 9 2;person mute 4 0 3;");
        int[] want = {17, 4, 8, 20};
        for (int f = 0; f < 4; f++) is("know", x.know(f), want[f]);
        is("know(4)", x.know(4), BAD);
        is("know(-1)", x.know(-1), BAD);
    }

    /** SAY in a row of two: the one ahead of a kind, the last, who knows fact 2, of a kind. */
    private static int saidBy(String last, String ahead, int knows) {
        TailSpeaks x = Due.told("person " + ahead + " 0;person " + last + " 0 2;row 1 0 1;");
        int got = x.say(1, 2);
        is(last + " says to " + ahead + ": he knows", x.one(0, 2), knows);
        is(last + " says: the hour", x.rule(1), got < 0 ? 0 : 1);
        return got;
    }

    private static void says() {
        promise = 10;
        is("plain to plain", saidBy("plain", "plain", 4), 1);
        is("quick to mute", saidBy("quick", "mute", 4), 1);
        is("deaf to liar", saidBy("deaf", "liar", 4), 1);
        is("liar to plain", saidBy("liar", "plain", 0), 0);
        is("plain to deaf", saidBy("plain", "deaf", 0), 0);
        is("mute to plain", saidBy("mute", "plain", 0), STATE);
        TailSpeaks x = Due.told(THREE + "row 1 3;person plain 0 1;");
        is("he does not know it", x.say(0, 0), NONE);
        is("no one ahead", x.say(1, 1), STATE);
        x.teach(2, 0, true);
        is("say", x.say(0, 0), 1);
        is("again", x.say(0, 0), 0);
        is("hour", x.rule(1), 2);
        is("only the one ahead", x.know(0), 7);
        is("say(2, 0)", x.say(2, 0), BAD);
        is("say(-1, 0)", x.say(-1, 0), BAD);
        is("say(0, 4)", x.say(0, 4), BAD);
        is("say(0, -1)", x.say(0, -1), BAD);
        x.ring(0);
        is("in a ring", x.say(0, 0), STATE);
        is("in a ring, what he does not know", x.say(0, 3), STATE);
        is("BAD is ahead", x.say(0, 9), BAD);
        is("nobody", new TailSpeaks().say(0, 0), STATE);
        is("mute is ahead of not knowing", Due.told("person plain 0;person mute 0;row 0 0 1;").say(0, 0), STATE);
    }

    private static int asked(String last, String ahead, int knows) {
        TailSpeaks x = Due.told("person " + ahead + " 0 2;person " + last + " 0;row 0 0 1;");
        int got = x.ask(0, 2);
        is(last + " asks " + ahead + ": he knows", x.one(1, 2), knows);
        is(last + " asks: the hour", x.rule(1), got < 0 ? 0 : 1);
        return got;
    }

    private static void asks() {
        promise = 11;
        is("plain asks plain", asked("plain", "plain", 4), 1);
        is("deaf asks mute", asked("deaf", "mute", 4), 1);
        is("liar asks deaf", asked("liar", "deaf", 4), 1);
        is("quick asks quick", asked("quick", "quick", 4), 1);
        is("plain asks liar", asked("plain", "liar", 0), 0);
        is("mute asks plain", asked("mute", "plain", 0), STATE);
        TailSpeaks x = Due.told(THREE);
        is("he ahead does not know", x.ask(0, 0), 0);
        is("hour", x.rule(1), 1);
        x.teach(1, 0, true);
        is("ask", x.ask(0, 0), 1);
        is("again", x.ask(0, 0), 0);
        is("ask(1, 0)", x.ask(1, 0), STATE);
        is("ask(2, 0)", x.ask(2, 0), BAD);
        is("ask(0, 4)", x.ask(0, 4), BAD);
        is("ask(0, -1)", x.ask(0, -1), BAD);
        x.ring(0);
        is("in a ring", x.ask(0, 0), STATE);
        is("one alone", Due.told("person plain 0 0;row 0 0;").ask(0, 0), STATE);
    }

    private static void goes() {
        promise = 12;
        TailSpeaks x = Due.told(FIVE + "row 0 0 1 2 3;row 1 4;");
        is("go(0, 0)", x.go(0, 0), 0);
        rowIs("go", x, 0, "1230");
        is("hour", x.rule(1), 1);
        is("the quick", x.go(0, 0), 1);
        rowIs("go", x, 0, "2301");
        is("takes no minute", x.rule(1), 1);
        is("the last", x.go(0, 3), 1);
        is("from the middle", x.go(0, 1), 3);
        rowIs("go", x, 0, "2013");
        is("the last, a minute", x.go(0, 3), 3);
        is("hour", x.rule(1), 3);
        is("one alone", x.go(1, 0), 4);
        is("hour", x.rule(1), 4);
        is("go(0, 4)", x.go(0, 4), BAD);
        is("go(0, -1)", x.go(0, -1), BAD);
        is("go(2, 0)", x.go(2, 0), BAD);
        x.ring(0);
        is("ring", x.go(0, 0), STATE);
        is("BAD is ahead", x.go(0, 4), BAD);
    }

    private static void changes() {
        promise = 13;
        TailSpeaks x = Due.told(FIVE + "row 0 0 2 1;");
        is("change(0), the quick", x.change(0), 1);
        is("in a minute", x.rule(1), 1);
        is("change(0)", x.change(0), 2);
        rowIs("change", x, 0, "0");
        rowIs("change", x, 1, "12");
        is("change(1)", x.change(1), 2);
        is("hour", x.rule(1), 3);
        rowIs("change", x, 0, "02");
        is("change(1)", x.change(1), 1);
        is("nobody", x.change(1), NONE);
        is("hour", x.rule(1), 4);
        is("change(2)", x.change(2), BAD);
        is("change(-1)", x.change(-1), BAD);
        x.ring(1);
        is("the other is a ring", x.change(0), STATE);
        is("it is a ring, nobody", x.change(1), STATE);
    }

    private static void serves() {
        promise = 14;
        TailSpeaks x = Due.told(FIVE + "row 0 1 0;row 1 4;ring 1;");
        is("serve", x.serve(0), 1);
        is("hour", x.rule(1), 1);
        is("in no row", x.one(1, 3), NONE);
        rowIs("serve", x, 0, "0");
        is("serve", x.serve(0), 0);
        is("nobody", x.serve(0), NONE);
        is("ring", x.serve(1), STATE);
        is("hour", x.rule(1), 2);
        is("serve(2)", x.serve(2), BAD);
        is("serve(-1)", x.serve(-1), BAD);
    }

    private static void comes() {
        promise = 15;
        TailSpeaks x = Due.told(FIVE + "row 0 0;ring 1;");
        is("come", x.come(1, 0), 1);
        is("come", x.come(4, 0), 2);
        is("hour", x.rule(1), 2);
        rowIs("come", x, 0, "014");
        is("he is in one", x.come(0, 0), STATE);
        is("a ring", x.come(2, 1), STATE);
        is("come(5, 0)", x.come(5, 0), BAD);
        is("come(-1, 0)", x.come(-1, 0), BAD);
        is("come(2, 2)", x.come(2, 2), BAD);
        is("come(2, -1)", x.come(2, -1), BAD);
        is("come", x.come(2, 0), 3);
        is("come", x.come(3, 0), 4);
    }

    private static void splits() {
        promise = 16;
        TailSpeaks x = Due.told(FIVE + "row 0 0 1 2 3 4;");
        is("split(0)", x.split(0), BAD);
        is("split(5)", x.split(5), BAD);
        is("split(-1)", x.split(-1), BAD);
        is("split(4)", x.split(4), 1);
        rowIs("split", x, 0, "0123");
        rowIs("split", x, 1, "4");
        is("somebody is there", x.split(1), STATE);
        is("BAD is ahead", x.split(4), BAD);
        x.change(1);
        is("split(1)", x.split(1), 4);
        rowIs("split", x, 1, "1234");
        is("no minute", x.rule(1), 1);
        x.join();
        x.ring(1);
        is("row 1 is a ring", x.split(1), STATE);
        is("one alone", Due.told("person plain 0;row 0 0;").split(1), BAD);
    }

    private static void joins() {
        promise = 17;
        TailSpeaks x = Due.told(FIVE + "row 0 3;row 1 2 0;");
        is("join", x.join(), 3);
        rowIs("join", x, 0, "320");
        is("row 1", x.rule(3), 0);
        is("join", x.join(), 3);
        is("no minute", x.rule(1), 0);
        x.ring(1);
        is("ring", x.join(), STATE);
        x = Due.told(FIVE + "row 0 3;row 1 2 0;ring 0;");
        is("ring", x.join(), STATE);
        rowIs("join", x, 1, "20");
    }

    private static void rings() {
        promise = 18;
        TailSpeaks x = Due.told(FIVE + "row 0 3;");
        is("ring(0)", x.ring(0), 1);
        is("ring(0)", x.ring(0), STATE);
        is("ring(1), empty", x.ring(1), 1);
        is("rule(5)", x.rule(5), 1);
        is("ring(2)", x.ring(2), BAD);
        is("ring(-1)", x.ring(-1), BAD);
        is("no minute", x.rule(1), 0);
    }

    private static void cuts() {
        promise = 19;
        TailSpeaks x = Due.told(FIVE + "row 1 0 1 2 3 4;ring 1;ring 0;");
        is("cut(1, 1)", x.cut(1, 1), 1);
        rowIs("cut", x, 1, "23401");
        is("no ring", x.rule(5), 0);
        is("it is none", x.cut(1, 0), STATE);
        x.ring(1);
        is("cut(1, 4)", x.cut(1, 4), 1);
        rowIs("cut", x, 1, "23401");
        x.ring(1);
        is("cut(1, 0)", x.cut(1, 0), 2);
        rowIs("cut", x, 1, "34012");
        is("BAD is ahead", x.cut(1, 5), BAD);
        is("an empty ring", x.cut(0, 0), BAD);
        is("cut(1, -1)", x.cut(1, -1), BAD);
        is("cut(2, 0)", x.cut(2, 0), BAD);
        is("no minute", x.rule(1), 0);
    }

    private static void lots() {
        promise = 20;
        int[] seeds = {0, 1, 7, -1, 12345, MAX, MIN, 65536};
        for (int seed : seeds) {
            TailSpeaks x = Due.told(FIVE + "row 0 0 1 2 3 4;ring 0;");
            // bits 16 to 30 of a number of 64 bits
            int i = (int) ((1103515245L * seed + 12345L >> 16 & 32767L) % 5);
            is("lot of " + seed, x.lot(0, seed), i);
            is("last", x.at(0, 4), i);
            is("no ring", x.rule(4), 0);
        }
        TailSpeaks x = Due.told(FIVE + "row 0 2 4;");
        is("it is none", x.lot(0, 1), STATE);
        x.ring(1);
        is("nobody", x.lot(1, 1), NONE);
        is("still a ring", x.rule(5), 1);
        is("lot(2, 0)", x.lot(2, 0), BAD);
        is("lot(-1, 0)", x.lot(-1, 0), BAD);
    }

    private static void teaches() {
        promise = 21;
        TailSpeaks x = Due.told(FIVE);
        is("teach", x.teach(3, 3, true), 0);
        is("teach", x.teach(3, 3, true), 1);
        is("teach", x.teach(3, 0, true), 0);
        is("knows", x.one(3, 2), 9);
        is("teach", x.teach(3, 3, false), 1);
        is("teach", x.teach(3, 3, false), 0);
        is("knows", x.one(3, 2), 1);
        is("teach(5, 0)", x.teach(5, 0, true), BAD);
        is("teach(-1, 0)", x.teach(-1, 0, true), BAD);
        is("teach(0, 4)", x.teach(0, 4, true), BAD);
        is("teach(0, -1)", x.teach(0, -1, false), BAD);
        is("no minute", x.rule(1), 0);
    }

    private static void prices() {
        promise = 22;
        TailSpeaks x = Due.told(FIVE);
        is("price", x.price(0, 9), 3);
        is("price", x.price(0, 0), 9);
        is("one", x.one(0, 1), 0);
        is("price(0, 10)", x.price(0, 10), BAD);
        is("price(0, -1)", x.price(0, -1), BAD);
        is("price(5, 1)", x.price(5, 1), BAD);
        is("price(-1, 1)", x.price(-1, 1), BAD);
        is("one", x.one(0, 1), 0);
    }

    private static void planIs(TailSpeaks x, int r, int f, int some, int how, int cost, int... acts) {
        String call = "plan(" + r + ", " + f + ", " + some + ", " + how + ")";
        is(call + " cost", x.plan(r, f, some, how, 0), cost);
        is(call + " acts", x.plan(r, f, some, how, 1), acts.length);
        for (int i = 0; i < acts.length; i++) is(call + " act " + i, x.plan(r, f, some, how, 10 + i), acts[i]);
        is(call + " act too many", x.plan(r, f, some, how, 10 + acts.length), NONE);
        is(call + " act far off", x.plan(r, f, some, how, MAX), NONE);
    }

    private static void plans() {
        promise = 23;
        TailSpeaks x = Due.told(THREE);
        long was = look(x);
        planIs(x, 0, 0, 1, 0, 0);
        planIs(x, 0, 0, 0, 0, 0);
        // 0 goes behind 2 and says it
        planIs(x, 0, 0, 4, 0, 2, 10, 0);
        // 0 and 1 must be the last two: 1 2 0, 2 0 1, and he asks (2 1 0 by GO 1, GO 0 is not the first)
        planIs(x, 0, 0, 2, 0, 3, 10, 10, 1);
        planIs(x, 0, 0, 6, 0, 4, 10, 0, 10, 1);
        planIs(x, 0, 0, 7, 1, 2, 10, 0, 10, 1);
        planIs(x, 0, 0, 7, 2, 3, 10, 0, 10, 1);
        is("a plan changes nothing", look(x), was);
        is("nobody knows it", x.plan(0, 1, 1, 0, 0), NONE);
        is("nobody knows it", x.plan(0, 1, 1, 0, 1), NONE);
        is("nobody knows it", x.plan(0, 1, 1, 0, 10), NONE);
        is("of nobody", x.plan(0, 1, 0, 0, 0), 0);
        // of two who know it either may go: the first by acts, or the cheaper one
        x = Due.told("person plain 9 0;person plain 2 0;person plain 1;person plain 1;row 0 0 1 2 3;");
        planIs(x, 0, 0, 8, 0, 2, 10, 0);
        planIs(x, 0, 0, 8, 1, 1, 10, 0);
        planIs(x, 0, 0, 8, 2, 2, 11, 0);
        x.price(1, 0);
        planIs(x, 0, 0, 8, 2, 0, 11, 0);
        x.price(0, 0);
        planIs(x, 0, 0, 8, 2, 0, 10, 0);
        // the quick go for no minute
        x = Due.told("person plain 9 0;person quick 2 0;person plain 1;person plain 1;row 1 0 1 2 3;");
        planIs(x, 1, 0, 8, 0, 1, 11, 0);
        planIs(x, 1, 0, 8, 1, 1, 10, 0);
        // 2 asks 1, and 0 comes to ask 2, all in three minutes; by goings too
        x = Due.told("person plain 1;person plain 1 0;person plain 1;row 0 0 1 2;");
        planIs(x, 0, 0, 1, 0, 3, 1, 10, 1);
        planIs(x, 0, 0, 1, 1, 1, 1, 10, 1);
        // a liar's fact, and the fact of one whom none can ask
        x = Due.told("person liar 1 0;person plain 1;row 0 0 1;");
        is("by a liar", x.plan(0, 0, 2, 0, 0), NONE);
        x = Due.told("person mute 1 0;person mute 1;row 0 0 1;");
        is("mutes", x.plan(0, 0, 2, 0, 0), NONE);
        x = Due.told("person mute 1 0;person deaf 1;row 0 0 1;");
        planIs(x, 0, 0, 2, 0, 1, 1);
        x = Due.told("person deaf 1;person plain 1 0;row 0 0 1;");
        planIs(x, 0, 0, 1, 0, 2, 10, 1);
        // SAY is ahead of ASK, both ahead of GO
        x = Due.told("person plain 1;person plain 1 0;row 0 0 1;");
        planIs(x, 0, 0, 3, 1, 0, 0);
        x = Due.told("person plain 1 0;row 0 0;");
        planIs(x, 0, 0, 1, 2, 0);
        is("alone", x.plan(0, 1, 1, 0, 0), NONE);
        // the same two in a longer row, and alone
        x = Due.told("person plain 0;person deaf 0;person plain 0 0;row 0 0 1 2;");
        planIs(x, 0, 0, 2, 2, 0, 11, 1);
        x.serve(0);
        planIs(x, 0, 0, 2, 2, 0, 10, 1);
        planEdges();
    }

    private static void planEdges() {
        TailSpeaks x = Due.told(THREE + "person plain 0;row 1 3;");
        is("r", x.plan(2, 0, 0, 0, 0), BAD);
        is("r", x.plan(-1, 0, 0, 0, 0), BAD);
        is("f", x.plan(0, 4, 0, 0, 0), BAD);
        is("f", x.plan(0, -1, 0, 0, 0), BAD);
        is("not in that row", x.plan(0, 0, 8, 0, 0), BAD);
        is("not in that row", x.plan(1, 0, 1, 0, 0), BAD);
        is("there is no such one", x.plan(0, 0, 16, 0, 0), BAD);
        is("some", x.plan(0, 0, -1, 0, 0), BAD);
        is("some", x.plan(0, 0, MIN, 0, 0), BAD);
        is("how", x.plan(0, 0, 1, 3, 0), BAD);
        is("how", x.plan(0, 0, 1, -1, 0), BAD);
        is("what", x.plan(0, 0, 1, 0, 2), BAD);
        is("what", x.plan(0, 0, 1, 0, 9), BAD);
        is("what", x.plan(0, 0, 1, 0, -1), BAD);
        x.ring(0);
        is("ring", x.plan(0, 0, 1, 0, 0), STATE);
        is("BAD is ahead", x.plan(0, 0, 8, 0, 0), BAD);
        x = Due.told(FIVE + "person plain 1;row 0 0 1 2 3 4 5;");
        is("six", x.plan(0, 0, 0, 0, 0), STATE);
        x.serve(0);
        is("five", x.plan(0, 0, 0, 0, 0), 0);
    }

    private static void latests() {
        promise = 24;
        TailSpeaks x = Due.told(THREE);
        is("2 needs two minutes, 1 three", x.latest(0, 0, 0), 1);
        is("cost", x.latest(0, 0, 1), 3);
        is("for one it can not be", x.latest(0, 1, 0), NONE);
        x.teach(1, 0, true);
        is("2 asks", x.latest(0, 0, 0), 2);
        is("cost", x.latest(0, 0, 1), 1);
        x.teach(2, 0, true);
        x.go(0, 0);
        is("all know: who is at the front", x.latest(0, 0, 0), 1);
        is("cost", x.latest(0, 0, 1), 0);
        is("nobody is there", x.latest(1, 0, 0), NONE);
        is("latest(2, 0, 0)", x.latest(2, 0, 0), BAD);
        is("latest(0, 4, 0)", x.latest(0, 4, 0), BAD);
        is("latest(0, 0, 2)", x.latest(0, 0, 2), BAD);
        is("latest(0, 0, -1)", x.latest(0, 0, -1), BAD);
        x.ring(0);
        is("ring", x.latest(0, 0, 0), STATE);
        x.ring(1);
        is("an empty ring", x.latest(1, 0, 0), STATE);
        x = Due.told("person liar 1 0;person plain 2;row 0 0 1;");
        is("by a liar", x.latest(0, 0, 1), NONE);
        x = Due.told(FIVE + "person plain 1;row 0 0 1 2 3 4 5;");
        is("six", x.latest(0, 0, 0), STATE);
    }

    private static void steers() {
        promise = 25;
        TailSpeaks x = Due.told(THREE);
        is("it is none", x.steer(0, 0, 0), STATE);
        x.ring(0);
        // cut at 0: 1 2 0: he says it to 2, then 1 comes and asks
        is("cut at 0", x.steer(0, 0, 0), 0);
        is("cost", x.steer(0, 0, 1), 3);
        is("nobody knows it", x.steer(0, 1, 0), NONE);
        is("nobody knows it", x.steer(0, 1, 1), NONE);
        rowIs("steer", x, 0, "012");
        is("still a ring", x.rule(4), 1);
        x.teach(0, 0, false);
        x.teach(1, 0, true);
        // cut at 1: 2 0 1: SAY, GO 0, ASK. Cut at 0: 1 2 0 needs GO 0 first
        is("cut at 1", x.steer(0, 0, 0), 1);
        is("cost", x.steer(0, 0, 1), 3);
        x.ring(1);
        is("nobody is there", x.steer(1, 0, 0), NONE);
        is("steer(2, 0, 0)", x.steer(2, 0, 0), BAD);
        is("steer(0, 4, 0)", x.steer(0, 4, 0), BAD);
        is("steer(0, 0, 2)", x.steer(0, 0, 2), BAD);
        is("steer(0, 0, -1)", x.steer(0, 0, -1), BAD);
        x = Due.told(FIVE + "person plain 1;row 0 0 1 2 3 4 5;ring 0;");
        is("six", x.steer(0, 0, 0), STATE);
        x = Due.told("person plain 1 0;row 0 0;ring 0;");
        is("one alone", x.steer(0, 0, 0), 0);
        is("one alone", x.steer(0, 0, 1), 0);
    }

    private static void commons() {
        promise = 26;
        TailSpeaks x = Due.told("person plain 3 0;person quick 5;person liar 1 1 3;person deaf 9 2;person mute 4 0 3;row 0 0 1 2 3 4;");
        is("common", x.common(0), 13);
        is("nobody is there", x.common(1), 15);
        x.teach(0, 1, true);
        is("common", x.common(0), 15);
        is("common(2)", x.common(2), BAD);
        is("common(-1)", x.common(-1), BAD);
        x.ring(0);
        is("ring", x.common(0), STATE);
        is("alone", Due.told("person plain 1 0 2;row 1 0;").common(1), 5);
        is("two mutes", Due.told("person mute 1 0 2;person mute 1 0;row 1 0 1;").common(1), 1);
        is("six", Due.told(FIVE + "person plain 1;row 0 0 1 2 3 4 5;").common(0), STATE);
    }

    private static void saws() {
        promise = 27;
        TailSpeaks x = Due.told(THREE);
        is("saw(0)", x.saw(0), 1);
        is("saw(NONE)", x.saw(NONE), 2);
        is("saw(3)", x.saw(3), BAD);
        is("saw(-1)", x.saw(-1), BAD);
        is("saw(2)", x.saw(2), 3);
        is("saw(2)", x.saw(2), 4);
        is("saw(NONE)", x.saw(NONE), 5);
        is("saw(NONE)", x.saw(NONE), FULL);
        is("BAD is ahead", x.saw(3), BAD);
        is("count", x.count(2), 5);
        is("nobody", new TailSpeaks().saw(0), BAD);
        is("quiet", new TailSpeaks().saw(NONE), 1);
    }

    private static void forgets() {
        promise = 28;
        TailSpeaks x = Due.told(THREE);
        is("forget", x.forget(), 0);
        x.saw(0);
        x.saw(1);
        is("forget", x.forget(), 2);
        is("count", x.count(2), 0);
        is("saw", x.saw(1), 1);
    }

    private static void talks() {
        promise = 29;
        TailSpeaks x = Due.told("person plain 1 0;person plain 2;person plain 3 2;row 0 0 1 2;");
        x.keep(1);
        is("nothing seen", x.talks(1, 0), 1);
        is("i no less than seen", x.talks(1, 10), BAD);
        x.saw(NONE);
        is("four asks in vain, or nothing", x.talks(1, 0), 5);
        is("the first asks 0", x.talks(1, 10), 4);
        x.say(0, 2);
        is("said", x.talks(1, 0), 1);
        is("said 2", x.talks(1, 10), 2);
        x.saw(0);
        x.saw(NONE);
        x.go(0, 0);
        x.ask(0, 2);
        is("2 was said, 0 went and asked 2", x.talks(1, 0), 1);
        is("a say", x.talks(1, 10), 2);
        is("a going", x.talks(1, 11), 9);
        is("an ask", x.talks(1, 12), 6);
        is("i no less than seen", x.talks(1, 13), BAD);
        is("what", x.talks(1, 1), BAD);
        is("what", x.talks(1, 9), BAD);
        is("what", x.talks(1, -1), BAD);
        is("k", x.talks(2, 0), BAD);
        is("k", x.talks(-1, 0), BAD);
        is("no such image", x.talks(0, 0), STATE);
        is("BAD is ahead", x.talks(0, 13), BAD);
        x.teach(1, 3, true);
        is("none fits", x.talks(1, 0), 0);
        is("none fits", x.talks(1, 10), NONE);
        talkEdges();
    }

    private static void talkEdges() {
        // 4 facts said in vain, 4 asked in vain, or nothing, five times
        TailSpeaks x = Due.told("person plain 1 0 1 2 3;person plain 2 0 1 2 3;row 0 0 1;ring 1;");
        for (int i = 0; i < 5; i++) x.saw(NONE);
        x.keep(0);
        is("9 to the 5th", x.talks(0, 0), 59049);
        is("the first", x.talks(0, 14), 0);
        x.ring(0);
        is("a ring now is no matter", x.talks(0, 0), 59049);
        x.keep(1);
        is("a ring in it", x.talks(1, 0), STATE);
        x = Due.told("person plain 1 0;person mute 2 0;person quick 0;row 0 0 1;");
        x.keep(0);
        x.saw(NONE);
        is("the mute says nothing", x.talks(0, 0), 1);
        is("nothing", x.talks(0, 10), 8);
        x.saw(2);
        is("he is in no row", x.talks(0, 0), 0);
        x.forget();
        x.serve(0);
        x.keep(0);
        x.saw(NONE);
        is("no one ahead", x.talks(0, 0), 1);
        x.saw(1);
        is("alone he goes", x.talks(0, 0), 1);
        is("alone he goes", x.talks(0, 11), 9);
        // the liar says it in vain, the deaf one hears nothing: each a talk that changes nothing
        x = Due.told("person plain 1;person liar 2 0;row 0 0 1;");
        x.keep(0);
        x.saw(NONE);
        is("1 say, 4 asks, nothing", x.talks(0, 0), 6);
        is("the say", x.talks(0, 10), 0);
        x.teach(0, 0, true);
        is("never by a liar", x.talks(0, 0), 0);
    }

    private static void keeps() {
        promise = 30;
        TailSpeaks x = Due.told(FIVE + "row 0 0 1 2;row 1 3;ring 1;");
        x.go(0, 0);
        is("keep(0)", x.keep(0), 0);
        is("keep(1)", x.keep(1), 0);
        is("keep(0)", x.keep(0), 1);
        is("keep(2)", x.keep(2), BAD);
        is("keep(-1)", x.keep(-1), BAD);
        is("count", x.count(3), 2);
    }

    private static void backs() {
        promise = 31;
        TailSpeaks x = Due.told(FIVE + "row 0 0 1 2;row 1 3;ring 1;");
        is("there is none", x.back(0), STATE);
        x.go(0, 0);
        x.keep(0);
        long was = look(x);
        x.go(0, 0);
        x.go(0, 0);
        x.teach(4, 3, true);
        x.price(0, 9);
        x.serve(0);
        x.cut(1, 0);
        x.saw(1);
        x.keep(1);
        is("back(0)", x.back(0), 1);
        is("all is as it was", look(x), was);
        is("seen stays", x.count(2), 1);
        is("back(1)", x.back(1), 3);
        is("knows", x.one(4, 2), 8);
        is("price", x.one(0, 1), 9);
        x.teach(4, 3, false);
        is("an image is no matter of what comes", x.back(1), 3);
        is("knows", x.one(4, 2), 8);
        is("images stay", x.count(3), 2);
        is("back(2)", x.back(2), BAD);
        is("back(-1)", x.back(-1), BAD);
    }

    private static void sheets() {
        promise = 32;
        TailSpeaks x = new TailSpeaks();
        is("sheet", x.sheet(0, 0, 40), 1);
        is("cells", x.count(5), 40);
        is("n above 40", x.sheet(0, 0, 41), BAD);
        is("n far above", x.sheet(0, 0, MAX), BAD);
        is("size", x.sheet(0, 0, -1), -14);
        is("size", x.sheet(3, 2, MIN), -14);
        is("size changes nothing", x.count(5), 40);
        is("nothing was laid", x.lay(3, 0, 0), -11);
        is("BAD is ahead", x.sheet(4, 0, -1), BAD);
        is("k", x.sheet(-1, 0, 1), BAD);
        is("lane", x.sheet(0, 3, 1), BAD);
        is("lane", x.sheet(0, -1, -1), BAD);
        is("no cells", x.sheet(0, 1, 0), 1);
        is("cells", x.count(5), 0);
        is("index", x.lay(0, 0, 0), -12);
        // new cells are 0: SAY of fact 0
        Due.tell(x, "person plain 1;person plain 1 0;row 0 0 1;");
        x.sheet(2, 1, 1);
        x.lay(2, 0, 9);
        x.sheet(2, 1, 1);
        is("read", x.read(2, 1, 0, 0, 1), 1);
        is("know", x.know(0), 3);
    }

    private static void lays() {
        promise = 33;
        TailSpeaks x = Due.told("person plain 1;person plain 1 1;row 0 0 1;");
        is("nothing", x.lay(0, 0, 0), -11);
        for (int lane = 0; lane < 3; lane++) x.sheet(lane, lane, 2);
        is("index", x.lay(0, 2, 0), -12);
        is("index", x.lay(0, -1, 0), -12);
        is("index", x.lay(2, MIN, 0), -12);
        is("nothing is ahead of index", x.lay(3, -1, 0), -11);
        is("k", x.lay(4, 0, 0), BAD);
        is("k", x.lay(-1, 0, 0), BAD);
        // 257 and 65537 are 1 by their lowest bits, 511 is -1 as a byte
        is("lay", x.lay(0, 0, 257), 1);
        is("lay", x.lay(1, 0, 65537), 1);
        is("lay", x.lay(2, 0, 65537), 1);
        is("byte", x.read(0, 0, 0, 0, 1), 1);
        is("short", x.read(1, 1, 0, 0, 1), 1);
        is("int", x.read(2, 2, 0, 0, 1), -20);
        x.lay(1, 0, 257);
        is("short", x.read(1, 1, 0, 0, 1), -20);
        x.lay(0, 0, 255);
        is("byte", x.read(0, 0, 0, 0, 1), -20);
        is("the other cell", x.lay(0, 1, 11), 1);
        is("byte", x.read(0, 0, 0, 1, 1), 1);
    }

    private static void reads() {
        promise = 34;
        TailSpeaks x = Due.told("person plain 1 1;person quick 2;person plain 3 0;row 1 0 1 2;");
        int[] acts = {0, 10, 4, 12, 5, 9};
        x.sheet(0, 2, 6);
        for (int i = 0; i < 6; i++) x.lay(0, i, acts[i]);
        // SAY 0 by 2 to 1; GO 0: 1 2 0; ASK 0; GO 2; ASK 1 in vain
        is("read", x.read(0, 2, 1, 0, 5), 5);
        is("hour", x.rule(1), 5);
        is("know", x.know(0), 7);
        rowIs("read", x, 1, "120");
        long was = look(x);
        is("no act", x.read(0, 2, 1, 1, 5), -24);
        is("none is done", look(x), was);
        is("said by one who does not know it", x.read(0, 2, 0, 0, 1), -20);
        x.lay(0, 1, 13);
        is("no such place", x.read(0, 2, 1, 0, 2), -21);
        x.lay(0, 1, MAX);
        is("no such place", x.read(0, 2, 1, 0, 2), -21);
        x.lay(0, 1, -1);
        is("no act", x.read(0, 2, 1, 0, 2), -21);
        x.lay(0, 1, 8);
        is("no act", x.read(0, 2, 1, 0, 2), -21);
        x.lay(0, 1, 3);
        is("he does not know it", x.read(0, 2, 1, 0, 2), -21);
        is("none is done", look(x), was);
        x.lay(0, 5, 10);
        is("index: those ahead are done", x.read(0, 2, 1, 4, 12), 2);
        rowIs("read", x, 1, "201");
        is("nothing is read", x.read(0, 2, 1, 0, 0), 0);
        x.ring(1);
        is("in a ring", x.read(0, 2, 1, 4, 1), -20);
        is("k", x.read(4, 2, 1, 0, 0), BAD);
        is("k", x.read(-1, 2, 1, 0, 0), BAD);
        is("lane", x.read(0, 3, 1, 0, 0), BAD);
        is("lane", x.read(0, -1, 1, 0, 0), BAD);
        is("r", x.read(0, 2, 2, 0, 0), BAD);
        is("r", x.read(0, 2, -1, 0, 0), BAD);
        is("n", x.read(0, 2, 1, 0, 13), BAD);
        is("n", x.read(0, 2, 1, 0, -1), BAD);
    }

    private static void torns() {
        promise = 35;
        TailSpeaks x = Due.told("person plain 1 1;person plain 3 0;row 0 0 1;");
        is("nothing", x.read(1, 0, 0, 0, 1), 0);
        is("NULL", x.torn(), 1);
        x.sheet(1, 0, 2);
        is("index", x.read(1, 0, 0, 1, 3), 1);
        is("INDEX", x.torn(), 2);
        is("index", x.read(1, 0, 0, 1, 1), 1);
        is("no fault", x.torn(), 0);
        is("far off", x.read(1, 0, 0, MAX, 12), 0);
        is("INDEX", x.torn(), 2);
        is("BAD", x.read(1, 0, 0, 0, 13), BAD);
        is("it did not come to an end", x.torn(), 2);
        is("cast", x.read(1, 1, 0, 0, 1), 0);
        is("CAST", x.torn(), 3);
        is("cast is ahead of index", x.read(1, 2, 0, -1, 1), 0);
        is("CAST", x.torn(), 3);
        x.lay(1, 0, 9);
        is("no act", x.read(1, 0, 0, 0, 1), -20);
        is("it did not come to an end", x.torn(), 3);
        is("a fault of lay()", x.lay(1, 2, 0), -12);
        is("a fault of sheet()", x.sheet(1, 0, -1), -14);
        is("is no matter", x.torn(), 3);
        is("the act is met first", x.read(1, 0, 0, 0, 3), -20);
        is("below", x.read(1, 0, 0, -1, 1), 0);
        is("INDEX", x.torn(), 2);
        is("nothing read", x.read(1, 0, 0, 0, 0), 0);
        is("no fault", x.torn(), 0);
    }

    private static void counts() {
        promise = 36;
        TailSpeaks x = Due.told(FIVE + "row 0 0 1;row 1 4;");
        is("in rows", x.count(0), 3);
        is("know nothing", x.count(1), 3);
        x.teach(3, 0, true);
        is("know nothing", x.count(1), 2);
        x.saw(NONE);
        is("seen", x.count(2), 1);
        x.keep(1);
        is("images", x.count(3), 1);
        x.feed(0);
        x.end(3);
        is("tape", x.count(4), 3);
        is("no sheet", x.count(5), NONE);
        x.sheet(1, 0, 3);
        is("no sheet 0", x.count(5), NONE);
        x.sheet(0, 0, 7);
        is("cells", x.count(5), 7);
        is("count(6)", x.count(6), BAD);
        is("count(-1)", x.count(-1), BAD);
    }
}
