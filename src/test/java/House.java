import java.util.ArrayList;
import java.util.List;

/** Objects that hold something of everything, and all that can be asked of one. */
final class House {
    private static final int NONE = -4;
    static final String[] KINDS = {"plain", "quick", "liar", "deaf", "mute"};
    /** One of each kind, and a plain one more, who knows nothing. */
    static final String SIX =
        "person plain 3 0;person quick 5;person liar 1 1;person deaf 9 2;person mute 4 0 3;person plain 0;";

    private House() {
    }

    /** A text is told; then images, what was seen, sheets, a torn one, a faulty text and a tape. */
    static TailSpeaks of(String text) {
        TailSpeaks x = Due.told(text);
        x.keep(1);
        x.teach(0, 3, true);
        x.price(0, 7);
        x.keep(0);
        x.saw(NONE);
        x.saw(0);
        int[] acts = {10, 4, 0, 11, 8};
        for (int k = 0; k < 3; k++) {
            x.sheet(k, k, acts.length);
            for (int i = 0; i < acts.length; i++) x.lay(k, i, acts[i]);
        }
        x.read(0, 0, 0, acts.length, 1);
        Due.tell(x, "rows 0;");
        Due.lay(x, "person deaf 4 2;ring 1;row 0 0;ring");
        return x;
    }

    static String row(TailSpeaks x, int r) {
        StringBuilder b = new StringBuilder();
        for (int i = 0; i < x.rule(2 + r); i++) b.append(x.at(r, i));
        return b.toString();
    }

    /** A text that tells what there is, but the hour. */
    static String textOf(TailSpeaks x) {
        StringBuilder b = new StringBuilder();
        for (int p = 0; p < x.rule(0); p++) {
            b.append("person ").append(KINDS[x.one(p, 0)]).append(' ').append(x.one(p, 1));
            int facts = x.one(p, 2);
            for (int f = 0; f < 4; f++) if ((facts >> f & 1) != 0) b.append(' ').append(f);
            b.append(';');
        }
        for (int r = 0; r < 2; r++) {
            String row = row(x, r);
            if (!row.isEmpty()) b.append("row ").append(r).append(row.replaceAll("(.)", " $1")).append(';');
            if (x.rule(4 + r) == 1) b.append("ring ").append(r).append(';');
        }
        return b.toString();
    }

    /** What can be asked without a change. */
    static List<Integer> look(TailSpeaks x) {
        List<Integer> all = new ArrayList<>();
        for (int w = 0; w < 6; w++) all.add(x.rule(w));
        for (int w = 0; w < 6; w++) all.add(x.count(w));
        for (int p = 0; p < x.rule(0); p++) {
            for (int w = 0; w < 5; w++) all.add(x.one(p, w));
        }
        for (int r = 0; r < 2; r++) {
            for (int i = 0; i < x.rule(2 + r); i++) all.add(x.at(r, i));
        }
        all.add(x.fault());
        all.add(x.torn());
        return all;
    }

    /** What is answered from here on, of the images, sheets and the tape too. */
    static List<Integer> future(TailSpeaks x) {
        List<Integer> all = look(x);
        for (int k = 0; k < 2; k++) {
            all.add(x.talks(k, 0));
            for (int i = 0; i < x.count(2); i++) all.add(x.talks(k, 10 + i));
        }
        for (int k = 0; k < 4; k++) {
            for (int i = 0; i < 6; i++) {
                all.add(x.read(k, k % 3, 0, i, 1));
                all.add(x.torn());
            }
        }
        for (int k = 0; k < 2; k++) {
            all.add(x.back(k));
            all.addAll(look(x));
        }
        all.add(x.feed(0x2031203b20202020L));
        all.add(x.text());
        all.addAll(look(x));
        return all;
    }
}
