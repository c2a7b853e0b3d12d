/** Holds answers against those that are due; each stands under the document's sentence that asks for it. */
final class Due {
    static final int NONE = LotHouse.NONE;
    static final int NO_NUMBER = -1000000;

    private static int wrong = 0;
    private static int asked = 0;
    private static String sentence = "";

    private Due() {
    }

    static void sentence(String words) {
        sentence = words;
    }

    static void due(String call, int got, int want) {
        asked++;
        if (got != want) {
            wrong++;
            System.out.println("\"" + sentence + "\": " + call + " answered " + got + ", due is " + want);
        }
    }

    static void same(String call, String got, String want) {
        asked++;
        if (!got.equals(want)) {
            wrong++;
            System.out.println("\"" + sentence + "\": " + call + " left\n  " + got + ", due is\n  " + want);
        }
    }

    static LotHouse told(String text) {
        LotHouse x = new LotHouse();
        if (Texts.land(x, text) == NONE) {
            due("FAULT at " + x.fault(1) + " of land of " + text, x.fault(0), 0);
        }
        return x;
    }

    static String person(String name, String kind, int earns, int paper, int signs) {
        return "person " + name + " kind " + kind + " earns " + earns + " paper " + paper + " signs " + signs;
    }

    /** So many PERSONS of one KIND, a, b .., who earn as much and have signs 0. */
    static String crowd(int persons, int earns) {
        StringBuilder text = new StringBuilder("kind k;");
        for (int p = 0; p < persons; p++) {
            text.append(person(Character.toString('a' + p), "k", earns, 0, 0)).append(";");
        }
        return text.toString();
    }

    /** PERSONS of one KIND, each but the first near the one ahead of it. */
    static String chain(int persons) {
        StringBuilder text = new StringBuilder("kind k;");
        for (int p = 0; p < persons; p++) {
            text.append(person(Character.toString('a' + p), "k", 9, 0, 0));
            text.append(p == 0 ? ";" : " near " + (char) ('a' + p - 1) + ";");
        }
        return text.toString();
    }

    static int next(int w) {
        return w * 1103515245 + 12345;
    }

    static int next(int w, int draws) {
        int now = w;
        for (int i = 0; i < draws; i++) {
            now = next(now);
        }
        return now;
    }

    /** The least w from 0 on with which DRAWS of so many (first half) say so (second half). */
    static int seedFor(int... ofAndSays) {
        int draws = ofAndSays.length / 2;
        for (int w = 0; w < 100000000; w++) {
            int now = w;
            boolean well = true;
            for (int i = 0; i < draws && well; i++) {
                now = next(now);
                well = (now >>> 16) % ofAndSays[i] == ofAndSays[draws + i];
            }
            if (well) {
                return w;
            }
        }
        throw new IllegalArgumentException("no w for these DRAWS");
    }

    /** All that can be asked without changing anything, but for what plans say. */
    static String all(LotHouse x) {
        StringBuilder text = new StringBuilder();
        for (int what = 0; what < 8; what++) {
            text.append(x.about(what)).append(' ');
        }
        int persons = x.about(1);
        for (int p = 0; p < persons; p++) {
            for (int what = 0; what < 6; what++) {
                text.append(what == 0 ? "| " : "").append(x.person(p, what)).append(' ');
            }
            text.append(x.score(p)).append(' ').append(x.smelt(p)).append(' ');
        }
        int years = x.about(2);
        for (int year = 1; year <= years; year++) {
            for (int what = 0; what < 6; what++) {
                text.append(what == 0 ? "/ " : "").append(x.sum(year, what)).append(' ');
            }
            text.append(x.estimate(year, 0)).append(' ').append(x.did(year, 0)).append(' ').append(x.luck(year, 1)).append(' ');
        }
        int kinds = x.about(0);
        for (int kind = 0; kind < kinds; kind++) {
            text.append("; ").append(x.kind(kind, 1)).append(' ').append(x.kind(kind, 2)).append(' ');
            text.append(x.kind(kind, 3)).append(' ').append(x.owed(kind)).append(' ');
        }
        return text.append(x.blind()).append(' ').append(x.fairest()).append(' ').append(x.line(true)).toString();
    }

    static void finish() {
        System.out.println(wrong == 0 ? "all " + asked + " answers are as due" : wrong + " answers are not as due");
        if (wrong != 0) {
            System.exit(1);
        }
    }
}
