/** Counts answers that are not as due, and feeds texts. */
final class Due {
    private int wrong;
    private int asked;

    void is(String call, long got, long want) {
        asked++;
        if (got == want) return;
        wrong++;
        if (wrong <= 50) System.out.println(call + " answered " + got + ", due is " + want);
    }

    void end() {
        System.out.println(wrong + " of " + asked + " answers are not as due");
        if (wrong != 0 || asked == 0) System.exit(1);
    }

    /** Lays a text on the tape, which must be empty. */
    static void lay(TailSpeaks x, String text) {
        for (int i = 0; i < text.length(); i += 8) {
            long v = 0;
            for (int j = i; j < i + 8; j++) {
                v = v << 8 | (j < text.length() ? text.charAt(j) & 255 : ' ');
            }
            x.feed(v);
        }
        x.end(text.length());
    }

    static int tell(TailSpeaks x, String text) {
        lay(x, text);
        return x.text();
    }

    static TailSpeaks told(String text) {
        TailSpeaks x = new TailSpeaks();
        tell(x, text);
        return x;
    }
}
