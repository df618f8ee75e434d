/** The tape, its text and the text's faults: each sentence that names a boundary case (promises 1 to 5). */
public final class TextEdgeTest {
    private static final int BAD = -1, FULL = -3, NONE = -4;
    private static final int MIN = Integer.MIN_VALUE, MAX = Integer.MAX_VALUE;
    private static final String MUTES =
        "person mute 1;person mute 1;person mute 1;person mute 1;person mute 1;person mute 1;";
    private static final Sentence S = new Sentence();

    public static void main(String[] args) {
        aNewObject();
        feeding();
        fullTape();
        ending();
        badEnds();
        tokensAreLong();
        bytesBetween();
        firstBytes();
        numbersOfTwoFigures();
        kinds();
        lines();
        eachTokenBehindEach();
        bounds();
        peopleByOrder();
        faultOne();
        faultTwo();
        faultTwoAtTheEnd();
        faultThree();
        faultFour();
        faultFive();
        faultSix();
        theFirstMet();
        placesOfTheTape();
        aTextThatIsTaken();
        nobodyIsTold();
        aTextThatIsNot();
        theLatestText();
        S.end();
    }

    private static void taken(String text, int lines) {
        TailSpeaks x = new TailSpeaks();
        S.is("'" + text + "'", Due.tell(x, text), lines);
        S.is("fault of '" + text + "'", x.fault(), 0);
    }

    private static void faulty(String text, int place, int fault) {
        TailSpeaks x = new TailSpeaks();
        S.is("'" + text + "'", Due.tell(x, text), -10 - place);
        S.is("fault of '" + text + "'", x.fault(), fault);
    }

    private static void aNewObject() {
        S.by("Nobody; SHEETS have nothing.");
        TailSpeaks x = new TailSpeaks();
        for (int w = 0; w < 6; w++) S.is("rule " + w, x.rule(w), 0);
        for (int p = 0; p < 6; p++) S.is("one " + p, x.one(p, 0), BAD);
        for (int r = 0; r < 2; r++) S.is("at " + r, x.at(r, 0), BAD);
        for (int f = 0; f < 4; f++) S.is("know " + f, x.know(f), 0);
        for (int w = 0; w < 5; w++) S.is("count " + w, x.count(w), 0);
        S.is("count 5", x.count(5), NONE);
        for (int k = 0; k < 4; k++) S.is("lay " + k, x.lay(k, 0, 0), -11);
        for (int k = 0; k < 4; k++) {
            S.is("read " + k, x.read(k, 0, 0, 0, 1), 0);
            S.is("torn", x.torn(), 1);
        }
        S.by("THE HOUR: MINUTES that went (0 at first).");
        S.is("hour", new TailSpeaks().rule(1), 0);
        S.by("The FAULT of the latest text(); 0.");
        S.is("ahead of all texts", new TailSpeaks().fault(), 0);
        S.by("The FAULT of the latest read() that came to an end; 0.");
        S.is("ahead of all reads", new TailSpeaks().torn(), 0);
    }

    private static void feeding() {
        S.by("Eight bytes come behind THE TAPE, the highest first: how many it has.");
        TailSpeaks x = new TailSpeaks();
        S.is("'ring 1;r'", x.feed(0x72696e6720313b72L), 8);
        S.is("'ing 0;  '", x.feed(0x696e6720303b2020L), 16);
        S.is("two lines", x.text(), 2);
        S.is("the highest byte is above 127", x.feed(0x8020202020202020L), 8);
        S.is("its place", x.text(), -10);
        S.is("the lowest byte is above 127", x.feed(0x20202020202020ffL), 8);
        S.is("its place", x.text(), -17);
        S.is("behind 3 bytes", fedBehind(3), 11);
        S.is("behind 312 bytes", fedBehind(312), 320);
    }

    private static int fedBehind(int bytes) {
        return blanks(bytes).feed(0x2020202020202020L);
    }

    private static TailSpeaks blanks(int bytes) {
        TailSpeaks x = new TailSpeaks();
        Due.lay(x, " ".repeat(bytes));
        return x;
    }

    private static void fullTape() {
        S.by("FULL: more than 320.");
        for (int bytes = 313; bytes <= 320; bytes++) {
            S.is("behind " + bytes, fedBehind(bytes), FULL);
            TailSpeaks x = blanks(bytes);
            // bytes that would be a fault if they had come
            x.feed(-1L);
            S.is("the tape stays", x.count(4), bytes);
            S.is("what it has stays", x.text(), 0);
        }
        TailSpeaks x = blanks(320);
        x.feed(0);
        x.end(312);
        S.is("there is room again", x.feed(0), 320);
        x.text();
        S.is("a text makes room", x.feed(0), 8);
    }

    private static void ending() {
        S.by("THE TAPE keeps its first n bytes: how many it had.");
        TailSpeaks x = new TailSpeaks();
        S.is("0 of none", x.end(0), 0);
        Due.lay(x, "ring 0;ring 0;  ");
        S.is("all of them", x.end(16), 16);
        S.is("still all", x.count(4), 16);
        S.is("7 of 16", x.end(7), 16);
        S.is("count", x.count(4), 7);
        S.is("the first 7", x.text(), 1);
        Due.lay(x, "!!!!!!!!");
        S.is("0 of 8", x.end(0), 8);
        Due.lay(x, "ring 1;");
        S.is("none of the 8", x.text(), 1);
        S.is("a full tape", blanks(320).end(320), 320);
        S.is("a full tape", blanks(320).end(319), 320);
        // what stood behind the end is no part of a token
        Due.lay(x, "ring 0;;");
        x.end(7);
        S.is("'ring 0;'", x.text(), 1);
        cutShort("ringring", 4, 4, 2);
        cutShort("ring 000", 7, 7, 2);
        cutShort("ring 100", 7, 5, 3);
        cutShort("ring 0;;", 6, 6, 2);
        cutShort("row 0 0;", 7, 7, 2);
    }

    private static void cutShort(String text, int n, int place, int fault) {
        TailSpeaks x = new TailSpeaks();
        Due.lay(x, text);
        S.is("end", x.end(n), text.length());
        S.is(n + " of '" + text + "'", x.text(), -10 - place);
        S.is(n + " of '" + text + "'", x.fault(), fault);
    }

    private static void badEnds() {
        S.by("THE TAPE keeps its first n bytes: how many it had. BAD.");
        int[] far = {-1, MIN, MAX, 9, 320, 321};
        for (int n : far) {
            TailSpeaks x = new TailSpeaks();
            Due.lay(x, "ring 0; ");
            S.is("end " + n + " of 8", x.end(n), BAD);
            S.is("count", x.count(4), 8);
            S.is("text", x.text(), 1);
        }
        S.is("end 1 of none", new TailSpeaks().end(1), BAD);
        S.is("end 321 of 320", blanks(320).end(321), BAD);
        S.is("end 320 of 319", blanks(319).end(320), BAD);
    }

    private static void tokensAreLong() {
        S.by("TOKENS, each as long as may be, blanks (32) between");
        faulty("ringrow 0;", 0, 2);
        faulty("ring 0 0;", 7, 2);
        faulty("person plain1 01 1;", 17, 4);
        faulty("person plain 1 10;", 15, 3);
        taken("person plain 1 1 0;", 1);
        taken("ring0;ring1;", 2);
        taken("person quick2 3;row0 0;", 2);
        taken("   ring   0   ;   ", 1);
        faulty("ring 0 ; ;", 9, 2);
    }

    /** A byte between a NAME and a figure: what it is told by. */
    private static void bytesBetween() {
        S.by("TOKENS, each as long as may be, blanks (32) between");
        for (int b = 0; b < 256; b++) {
            char c = (char) b;
            String text = "ring" + c + "0;";
            if (c == ' ' || c == '0') taken(text, 1);
            else if (c >= 'a' && c <= 'z') faulty(text, 0, 2);
            else if (c >= '1' && c <= '9') faulty(text, 4, 3);
            else if (c == ';') faulty(text, 4, 2);
            else faulty(text, 4, 1);
        }
    }

    private static void firstBytes() {
        S.by("NAMES (a .. z), NUMBERS (1 or 2 figures), one ; .");
        for (int b = 0; b < 256; b++) {
            char c = (char) b;
            boolean token = c >= 'a' && c <= 'z' || c >= '0' && c <= '9' || c == ';';
            if (c == ' ') taken(" " + c, 0);
            else faulty(" " + c, 1, token ? 2 : 1);
        }
    }

    private static void numbersOfTwoFigures() {
        S.by("NUMBERS (1 or 2 figures)");
        taken("person plain 09 03 00;row 01 00;ring 00;", 3);
        faulty("ring 10;", 5, 3);
        faulty("ring 99;", 5, 3);
        S.by("1 no TOKEN, a NUMBER that is too long (its first byte).");
        faulty("ring 000;", 5, 1);
        faulty("ring 001;", 5, 1);
        faulty("person plain 0000000000000000000000000000001;", 13, 1);
        faulty("person plain 1 4294967296;", 15, 1);
        faulty("row 0 0 111", 8, 1);
        faulty("100", 0, 1);
        // a number that is too long ahead of what can not stand there
        faulty("person 123 1;", 7, 1);
        faulty("row 0 0;123", 8, 1);
    }

    private static void kinds() {
        S.by("K: plain | quick | liar | deaf | mute");
        for (int k = 0; k < 5; k++) {
            String kind = House.KINDS[k];
            S.is(kind, Due.told("person " + kind + " 0;").one(0, 0), k);
            faulty("person " + kind + "s 0;", 7, 2);
            faulty("person " + kind.substring(1) + " 0;", 7, 2);
            faulty("person " + kind.substring(0, kind.length() - 1) + " 0;", 7, 2);
            faulty("person " + kind.charAt(0) + " 0;", 7, 2);
            for (int i = 0; i < kind.length(); i++) {
                faulty("person " + kind.substring(0, i) + "z" + kind.substring(i + 1) + " 0;", 7, 2);
            }
            faulty(kind + " 0;", 0, 2);
        }
        faulty("person Plain 0;", 7, 1);
        faulty("person pLain 0;", 7, 2);
        faulty("person person 0;", 7, 2);
    }

    private static void lines() {
        S.by("THE TAPE (empty then) tells all: how many lines");
        taken("", 0);
        taken(" ", 0);
        taken(" ".repeat(320), 0);
        taken("ring 1;", 1);
        taken("ring 1; ring 0 ;", 2);
        taken("ring 0;row 0 2 0;person mute 9 3 2 1 0;person deaf 0;person quick 5 0;row 1 1;ring 1;", 7);
        taken(MUTES + "row 0 5 4 3 2 1 0;ring 0;ring 1;", 9);
        taken(MUTES + "row 1 5 3 1;row 0 4;ring 0;ring 1;", 10);
    }

    /** What a line may go on with behind a beginning; another token is fault 2, a greater number 3, one told already 4. */
    private static void eachTokenBehindEach() {
        S.by("line: person K N { N } ; | row N N { N } ; | ring N ;");
        goesOn("", "person row ring", -1, -1);
        goesOn("ring 1; ", "person row ring", -1, -1);
        goesOn("person ", "plain quick liar deaf mute", -1, -1);
        goesOn("person deaf ", "", 9, -1);
        goesOn("person deaf 1 ", ";", 3, -1);
        goesOn("person deaf 1 2 ", ";", 3, 2);
        goesOn("row ", "", 1, -1);
        goesOn("row 1 3;row ", "", 1, 1);
        goesOn("row 0 ", "", 5, -1);
        goesOn("row 0 4 ", ";", 5, 4);
        goesOn("ring ", "", 1, -1);
        goesOn("ring 0;ring ", "", 1, 0);
        goesOn("ring 0 ", ";", -1, -1);
    }

    private static void goesOn(String begun, String words, int most, int told) {
        String[] tokens = {"person", "row", "ring", "plain", "quick", "liar", "deaf", "mute", "zoo", ";",
            "0", "1", "2", "3", "4", "5", "6", "9", "00", "01", "10", "99", "100", "!"};
        for (String token : tokens) {
            int at = begun.length();
            boolean figures = Character.isDigit(token.charAt(0));
            int value = figures ? Integer.parseInt(token) : -1;
            if (token.equals("!") || token.equals("100")) faulty(begun + token, at, 1);
            else if (!figures && !(" " + words + " ").contains(" " + token + " ")) faulty(begun + token, at, 2);
            else if (figures && most < 0) faulty(begun + token, at, 2);
            else if (figures && value > most) faulty(begun + token, at, 3);
            else if (figures && value == told) faulty(begun + token, at, 4);
            else if (!token.equals(";")) faulty(begun + token, at + token.length(), 2);
            else if (begun.startsWith("row")) faulty(begun + token, at + 1, 6);
            else taken(begun + token, 1);
        }
    }

    private static void bounds() {
        S.by("person: KIND, PRICE, FACTS that he KNOWS.");
        TailSpeaks x = Due.told("person plain 0 3;person plain 9 0 3;person plain 5 3 2 1 0;person plain 5;");
        int[][] want = {{0, 8}, {9, 9}, {5, 15}, {5, 0}};
        for (int p = 0; p < 4; p++) for (int w = 0; w < 2; w++) S.is("one " + p, x.one(p, 1 + w), want[p][w]);
        S.by("row: a ROW, ONES (0 to 5) from the front on.");
        x = Due.told(MUTES + "row 1 5 0 4 1 3 2;");
        S.rowIs("six", x, 1, "504132");
        S.rowIs("six", x, 0, "");
        x = Due.told(MUTES + "row 1 3;row 0 5 4;");
        S.rowIs("two rows", x, 1, "3");
        S.rowIs("two rows", x, 0, "54");
        S.by("ring: a ROW.");
        for (int r = 0; r < 2; r++) {
            x = Due.told("ring " + r + ";");
            S.is("ring, nobody there", x.rule(4 + r), 1);
            S.is("the other", x.rule(5 - r), 0);
        }
    }

    private static void peopleByOrder() {
        S.by("PEOPLE (6 at most, by order), each a ONE: a KIND, a PRICE (0 to 9), FACTS (0 to 3) that he KNOWS.");
        for (int many = 0; many <= 6; many++) {
            StringBuilder text = new StringBuilder("row 0 5;".substring(0, many == 6 ? 8 : 0));
            for (int p = 0; p < many; p++) text.append("person ").append(House.KINDS[p % 5]).append(' ').append(9 - p).append(' ').append(p % 4).append(';');
            TailSpeaks x = Due.told(text.toString());
            S.is("people", x.rule(0), many);
            for (int p = 0; p < many; p++) {
                S.is("kind of " + p, x.one(p, 0), p % 5);
                S.is("price of " + p, x.one(p, 1), 9 - p);
                S.is("facts of " + p, x.one(p, 2), 1 << p % 4);
            }
            S.is("one more", x.one(many, 0), BAD);
        }
        S.by("ROWS 0, 1: ONES by PLACES, 0 the front");
        TailSpeaks x = Due.told(MUTES + "row 1 4 2 5;row 0 1;");
        S.is("the front", x.at(1, 0), 4);
        S.is("the last", x.at(1, 2), 5);
        S.is("who is served", x.serve(1), 4);
        S.is("who changes rows", x.change(1), 5);
        S.is("row 2", x.at(2, 0), BAD);
    }

    private static void faultOne() {
        S.by("1 no TOKEN, a NUMBER that is too long (its first byte).");
        faulty("!", 0, 1);
        faulty("ring 0;   ?", 10, 1);
        faulty("ring 0,", 6, 1);
        faulty("ring\t0;", 4, 1);
        faulty("ring 0;\n", 7, 1);
        faulty("ring -0;", 5, 1);
        faulty("ring +0;", 5, 1);
        faulty("Ring 0;", 0, 1);
        faulty("ring 0;\0", 7, 1);
        faulty("row 0 0 1 2 \u00e9", 12, 1);
        faulty("person\u00a0plain 1;", 6, 1);
        faulty("ring 012;", 5, 1);
        // a name in which a byte stands that is none is taken up to there
        faulty("riNg 0;", 0, 2);
        faulty("ring_0;", 4, 1);
    }

    private static void faultTwo() {
        S.by("2 a TOKEN that can not stand there (a NAME that begins no line, is no K; or the end: the length).");
        String[] noLine = {";", "0", "12", "rings 0;", "rin 0;", "rows 0;", "ro 0 0;", "persons 1;", "perso 1;",
            "plain 1;", "a", "z", "ringring 0;", "r", "p", "zing 0;", "tow 0 0;", "qerson mute 1;", "rinh 0;", "rox 0 0;",
            "rwo 0 0;", "rnig 0;", "persom mute 1;"};
        for (String text : noLine) faulty(text, 0, 2);
        faulty("ring 0;ring", 11, 2);
        faulty("person ;", 7, 2);
        faulty("person 1 1;", 7, 2);
        faulty("person row 1;", 7, 2);
        faulty("person plain;", 12, 2);
        faulty("person plain plain 1;", 13, 2);
        faulty("person plain 1 plain;", 15, 2);
        faulty("person plain 1 0 person plain 1;", 17, 2);
        faulty("person plain 1 0 1 2 3 ring 0;", 23, 2);
        faulty("row ;", 4, 2);
        faulty("row row 0;", 4, 2);
        faulty("row 0;", 5, 2);
        faulty("row 0 row 0;", 6, 2);
        faulty("row 0 0 row 1 1;", 8, 2);
        faulty("row 0 0 1 2 3 4 5 ring 1;", 18, 2);
        faulty("ring ;", 5, 2);
        faulty("ring ring 0;", 5, 2);
        faulty("ring 0 1;", 7, 2);
        faulty("ring 0 99;", 7, 2);
        faulty("ring 0 ring 1;", 7, 2);
        faulty("ring 0;;", 7, 2);
    }

    private static void faultTwoAtTheEnd() {
        S.by("or the end: the length");
        String[] open = {"person", "person plain", "person plain 1", "person plain 1 0", "person plain 1 0 1 2 3",
            "row", "row 0", "row 0 0", "row 0 0 1 2 3 4 5", "ring", "ring 0", "ring 0;ring", "ring 0;row 1"};
        for (String text : open) {
            faulty(text, text.length(), 2);
            faulty(text + " ", text.length() + 1, 2);
            faulty(text + "   ", text.length() + 3, 2);
        }
        String text = " ".repeat(314) + "ring 0";
        faulty(text, 320, 2);
    }

    private static void faultThree() {
        S.by("3 a NUMBER out of its bounds.");
        faulty("person plain 10;", 13, 3);
        faulty("person plain 99 ;", 13, 3);
        taken("person plain 9;", 1);
        faulty("person plain 9 4;", 15, 3);
        faulty("person plain 9 3 2 99;", 19, 3);
        faulty("person plain 9 0 1 2 3 4;", 23, 3);
        faulty("row 2 0;", 4, 3);
        faulty("row 99 0;", 4, 3);
        faulty("row 0 6;", 6, 3);
        faulty("row 0 0 1 2 3 4 5 6;", 18, 3);
        faulty("row 1 0 99;", 8, 3);
        faulty("ring 2;", 5, 3);
        faulty("ring 1;ring 02;", 12, 3);
    }

    private static void faultFour() {
        S.by("4 a FACT that he KNOWS already (it), a ROW that is told already (it), a ONE who is in a ROW already (he), a ROW that is a RING already (it).");
        for (int f = 0; f < 4; f++) faulty("person plain 1 " + f + " " + f + ";", 17, 4);
        faulty("person plain 1 0 1 2 3 0;", 23, 4);
        faulty("person plain 1 0 1 2 3 03;", 23, 4);
        taken("person plain 1 0;person plain 1 0;", 2);
        faulty("row 0 0;row 0 1;", 12, 4);
        faulty("row 1 0;row 0 1;row 01 2;", 20, 4);
        faulty("row 0 0 0;", 8, 4);
        faulty("row 0 5 4 3 2 1 0 5;", 18, 4);
        faulty("row 0 0;row 1 1 00;", 16, 4);
        faulty("row 1 3;row 0 3;", 14, 4);
        faulty("ring 0;ring 0;", 12, 4);
        faulty("ring 1;ring 0;ring 1;", 19, 4);
        faulty("ring 1;row 1 0;person mute 1;ring 01;", 34, 4);
        taken("row 1 0;person mute 1;ring 1;", 3);
    }

    private static void faultFive() {
        S.by("5 the 7th person (its NAME).");
        taken(MUTES, 6);
        S.is("six", Due.told(MUTES).rule(0), 6);
        int at = MUTES.length();
        faulty(MUTES + "person mute 1;", at, 5);
        faulty(MUTES + "  person", at + 2, 5);
        faulty(MUTES + "person!", at, 5);
        faulty(MUTES + "person walrus 1000;", at, 5);
        faulty(MUTES + "ring 0;person mute 1;", at + 7, 5);
        faulty(MUTES + "row 0 5;person mute 1;", at + 8, 5);
        faulty(MUTES + "persons mute 1;", at, 2);
    }

    private static void faultSix() {
        S.by("Behind all (the length): 6 a ONE that there is not.");
        for (int p = 0; p < 6; p++) {
            String people = MUTES.substring(0, 14 * p);
            String text = people + "row 1 " + p + ";";
            faulty(text, text.length(), 6);
            faulty(text + "  ", text.length() + 2, 6);
            faulty(text + "ring 1;", text.length() + 7, 6);
            taken(text + "person plain 0;", p + 2);
        }
        faulty("person plain 1;row 0 0;row 1 1;", 31, 6);
        faulty("row 1 1;row 0 0;person plain 1;", 31, 6);
        faulty("person plain 1;row 0 0 5;", 25, 6);
        String whole = " ".repeat(312) + "row 0 0;";
        faulty(whole, 320, 6);
    }

    private static void theFirstMet() {
        S.by("FAULTS, the first met as it is read (a TOKEN is read when the one before has been taken)");
        faulty("row 0 0;row 1 0;!", 14, 4);
        faulty("row 1 5;ring 0 !", 15, 1);
        faulty("row 1 5;ring 2;", 13, 3);
        faulty("row 1 5;ring", 12, 2);
        faulty("ring 2!", 5, 3);
        faulty("ring 0!", 6, 1);
        faulty("rung!", 0, 2);
        faulty("person!", 6, 1);
        faulty("person walrus!", 7, 2);
        faulty("person plain 10!", 13, 3);
        faulty("person plain 1 0 0!", 17, 4);
        faulty("person plain 1 0!", 16, 1);
        faulty("row 0 0 0!", 8, 4);
        faulty("row 0 6!", 6, 3);
        faulty("row 0 0;row 0!", 12, 4);
        faulty("row 0 0;row 0", 12, 4);
        faulty("ring 0;ring 0!", 12, 4);
        faulty("ring 0;ring 0", 12, 4);
        faulty("ring 0 100;", 7, 1);
        faulty("person 100", 7, 1);
        faulty("zoo ; ! 1000", 0, 2);
    }

    private static void placesOfTheTape() {
        S.by("THE TAPE has 320 bytes, places from 0.");
        faulty("!" + " ".repeat(319), 0, 1);
        faulty(" ".repeat(319) + "!", 319, 1);
        faulty(" ".repeat(319) + ";", 319, 2);
        taken(" ".repeat(313) + "ring 1;", 1);
        taken("ring 1;" + " ".repeat(313), 1);
        S.is("the last byte", Due.told(" ".repeat(313) + "ring 1;").rule(5), 1);
        faulty(" ".repeat(314) + "person", 320, 2);
        faulty(" ".repeat(316) + "ring", 320, 2);
        faulty(" ".repeat(318) + "00", 318, 2);
        faulty(" ".repeat(317) + "000", 317, 1);
        faulty("z".repeat(320), 0, 2);
        faulty("0".repeat(320), 0, 1);
        faulty("9".repeat(320), 0, 1);
    }

    private static void aTextThatIsTaken() {
        S.by("A text that is taken tells all, in place of what there was; THE HOUR is 0; nothing SEEN; IMAGES are gone.");
        TailSpeaks x = House.of(House.SIX + "row 0 3 2 1;row 1 0 4;");
        x.go(0, 0);
        S.is("a read in the second minute", x.read(0, 0, 0, 0, 1), 1);
        S.is("a read beyond", x.read(0, 0, 0, 5, 1), 0);
        x.ring(1);
        x.end(0);
        S.is("told", Due.tell(x, "person deaf 2 1;person mute 8;row 1 1;"), 3);
        int[] rules = {2, 0, 0, 1, 0, 0};
        for (int w = 0; w < 6; w++) S.is("rule " + w, x.rule(w), rules[w]);
        int[][] ones = {{3, 2, 2, NONE, NONE}, {4, 8, 0, 1, 0}};
        for (int p = 0; p < 2; p++) for (int w = 0; w < 5; w++) S.is("one " + p + " " + w, x.one(p, w), ones[p][w]);
        S.is("the third is gone", x.one(2, 0), BAD);
        int[] knows = {0, 1, 0, 0};
        for (int f = 0; f < 4; f++) S.is("know " + f, x.know(f), knows[f]);
        S.is("seen", x.count(2), 0);
        S.is("images", x.count(3), 0);
        for (int k = 0; k < 2; k++) S.is("back " + k, x.back(k), -2);
        for (int k = 0; k < 2; k++) S.is("keep " + k, x.keep(k), 0);
        S.is("sheets are not of that", x.count(5), 5);
        S.is("torn() is not of that", x.torn(), 2);
    }

    private static void nobodyIsTold() {
        S.by("A text that is taken tells all, in place of what there was; THE HOUR is 0; nothing SEEN; IMAGES are gone.");
        String[] nothing = {"", " ", "        "};
        for (String text : nothing) {
            TailSpeaks x = House.of(House.SIX + "row 0 3 2 1;row 1 0 4;ring 0;");
            x.serve(1);
            x.end(0);
            S.is("no lines", Due.tell(x, text), 0);
            for (int w = 0; w < 6; w++) S.is("rule " + w, x.rule(w), 0);
            for (int w = 0; w < 5; w++) S.is("count " + w, x.count(w), 0);
        }
    }

    private static void aTextThatIsNot() {
        S.by("-10 less the place of its FAULT: that which was told stays.");
        String[] texts = {"ring 0;!", "ring 0;;", "ring 0;ring 2;", "ring 0;ring 0;", MUTES + "person mute 1;",
            "ring 0;person mute 1;row 0 1;"};
        int[] places = {7, 7, 12, 12, 84, 29};
        for (int i = 0; i < texts.length; i++) {
            TailSpeaks x = House.of(House.SIX + "row 0 3 2 1;row 1 0 4;");
            TailSpeaks y = House.of(House.SIX + "row 0 3 2 1;row 1 0 4;");
            x.go(0, 0);
            y.go(0, 0);
            x.end(0);
            y.end(0);
            S.is(texts[i], Due.tell(x, texts[i]), -10 - places[i]);
            S.is("fault", x.fault(), i + 1);
            S.is("the tape is empty", x.count(4), 0);
            // the fault that the other one has
            Due.tell(x, "rows 0;");
            S.changesNothing(texts[i], x, y);
        }
    }

    private static void theLatestText() {
        S.by("The FAULT of the latest text(); 0.");
        TailSpeaks x = new TailSpeaks();
        Due.tell(x, "ring 2;");
        S.is("3", x.fault(), 3);
        S.is("again", x.fault(), 3);
        x.feed(0);
        S.is("a feed is no text", x.fault(), 3);
        x.end(0);
        S.is("an end is no text", x.fault(), 3);
        Due.tell(x, "!");
        S.is("1", x.fault(), 1);
        Due.tell(x, "ring 1;");
        S.is("it is taken", x.fault(), 0);
        Due.tell(x, "row 0 0;");
        S.is("6", x.fault(), 6);
        S.is("an empty tape", x.text(), 0);
        S.is("it is taken", x.fault(), 0);
        x.read(0, 0, 0, 0, 1);
        S.is("a fault of a sheet is none of a text", x.fault(), 0);
    }
}
