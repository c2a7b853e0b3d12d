import java.util.ArrayList;
import java.util.List;
import java.util.Random;

/** Runs of calls by lot (the same ones each time), each answer held against the Model's. */
public final class ModelTest {
    private static final int RUNS = 2500;
    private static final int CALLS = 400;
    /** What a later call answers is free; the last text may take so many. */
    private static final int MOST_CALLS = 512;
    private static final int CALLS_OF_TEXT = 90;
    private static final int MOST_TOLD = 10;
    private static int wrong = 0;
    private static final int[] faults = new int[6];

    private final Random random;
    private final LotHouse x = new LotHouse();
    private final Model model = new Model();
    private final int run;
    private int used = 0;

    private ModelTest(int run) {
        this.run = run;
        random = new Random(run);
    }

    public static void main(String[] args) {
        for (int run = 0; run < RUNS; run++) {
            new ModelTest(run).go();
        }
        for (int fault = 0; fault < faults.length; fault++) {
            if (faults[fault] < 50) {
                wrong++;
                System.out.println("too few texts with FAULT " + fault + ": " + faults[fault]);
            }
        }
        System.out.println(wrong == 0 ? "all answers are the model's" : wrong + " answers are not the model's");
        if (wrong != 0) {
            System.exit(1);
        }
    }

    private void due(String call, int got, int want) {
        used++;
        if (got != want) {
            wrong++;
            if (wrong <= MOST_TOLD) {
                System.out.println("run " + run + ": " + call + " answered " + got + ", the model " + want);
            }
        }
    }

    private int upTo(int n) {
        return random.nextInt(n + 1);
    }

    /** Mostly within, sometimes just outside of 0 .. n - 1, seldom far off. */
    private int about(int n) {
        if (random.nextInt(40) == 0) {
            return random.nextInt();
        }
        return random.nextInt(n + 2) - (random.nextInt(6) == 0 ? 1 : 0);
    }

    private void go() {
        tell(text());
        int calls = 60 + random.nextInt(CALLS - 60);
        for (int i = 0; i < calls && used + CALLS_OF_TEXT <= MOST_CALLS; i++) {
            if (random.nextInt(60) == 0) {
                tell(text());
            }
            call(random.nextInt(34));
        }
        if (used > MOST_CALLS) {
            wrong++;
            System.out.println("run " + run + ": an object was used for " + used + " calls");
        }
    }

    private void tell(String text) {
        byte[] bytes = text.getBytes(java.nio.charset.StandardCharsets.ISO_8859_1);
        int before = model.about(4);
        for (int i = 0; i < bytes.length; i += 20) {
            int a = Texts.number(bytes, i);
            int b = Texts.number(bytes, i + 4);
            int c = Texts.number(bytes, i + 8);
            int d = Texts.number(bytes, i + 12);
            int e = Texts.number(bytes, i + 16);
            due("feed", x.feed(a, b, c, d, e), model.feed(a, b, c, d, e));
        }
        int length = before + bytes.length;
        due("end", x.end(length), model.end(length));
        int persons = model.land();
        due("land of " + text, x.land(), persons);
        faults[model.fault(0)]++;
        due("fault(0) of " + text, x.fault(0), model.fault(0));
        due("fault(1) of " + text, x.fault(1), model.fault(1));
        if (persons < 0 && random.nextInt(4) != 0) {
            due("end(0)", x.end(0), model.end(0));
        }
    }

    private void call(int which) {
        int n = model.about(1);
        int a = about(n);
        int b = about(n);
        int what = about(6);
        int year = about(model.about(2) + 1);
        int part = about(2);
        boolean yes = random.nextBoolean();
        switch (which) {
            case 0: due("feed", x.feed(a, b, 3, 4, 5), model.feed(a, b, 3, 4, 5)); break;
            case 1: due("end " + a, x.end(a), model.end(a)); break;
            case 2: due("fault " + part, x.fault(part), model.fault(part)); break;
            case 3: case 4: due("person " + a + " " + what, x.person(a, what), model.person(a, what)); break;
            case 5: due("score " + a, x.score(a), model.score(a)); break;
            case 6: case 7: case 8: case 9: case 10: case 11: passYear(n, yes); break;
            case 12: due("sum " + year + " " + what, x.sum(year, what), model.sum(year, what)); break;
            case 13: due("estimate " + year + " " + part, x.estimate(year, part), model.estimate(year, part)); break;
            case 14: due("blind", x.blind(), model.blind()); break;
            case 15: kind(about(model.about(0)), about(4)); break;
            case 16: due("fairest", x.fairest(), model.fairest()); break;
            case 17: due("hears " + a + " " + b, x.hears(a, b), model.hears(a, b)); break;
            case 18: due("did " + year + " " + part, x.did(year, part), model.did(year, part)); break;
            case 19: luck(year, part, n); break;
            case 20: goes(about(1 << n), about(11), part); break;
            case 21: first(about(11), part); break;
            case 22: due("owed " + a, x.owed(a), model.owed(a)); break;
            case 23: due("line " + yes, x.line(yes), model.line(yes)); break;
            case 24: due("worth " + a, x.worth(a), model.worth(a)); break;
            case 25: case 26: best(about(Math.min(n, 7)), about(4), part); break;
            case 27: due("known " + yes + " " + a, x.known(yes, a), model.known(yes, a)); break;
            case 28: due("game " + a, x.game(a), model.game(a)); break;
            case 29: due("smelt " + a, x.smelt(a), model.smelt(a)); break;
            case 30: due("image " + part, x.image(part), model.image(part)); break;
            case 31: due("back " + part, x.back(part), model.back(part)); break;
            case 32: seed(random.nextInt()); break;
            default: what = about(8); due("about " + what, x.about(what), model.about(what)); break;
        }
    }

    private void passYear(int n, boolean match) {
        int smelt = about(n / 2);
        int lot = about(Math.max(0, n - smelt) / 2);
        int letters = about(Math.max(0, n - smelt - lot));
        due("year " + match + " " + smelt + " " + lot + " " + letters, x.year(match, smelt, lot, letters),
            model.year(match, smelt, lot, letters));
        due("w", x.about(3), model.about(3));
    }

    private void kind(int kind, int what) {
        due("kind " + kind + " " + what, x.kind(kind, what), model.kind(kind, what));
    }

    private void luck(int year, int part, int n) {
        if (n < 9 || random.nextInt(10) == 0) {
            due("luck " + year + " " + part, x.luck(year, part), model.luck(year, part));
        }
    }

    private void goes(int persons, int h, int what) {
        due("goes " + persons + " " + h + " " + what, x.goes(persons, h, what), model.goes(persons, h, what));
    }

    private void first(int h, int what) {
        due("first " + h + " " + what, x.first(h, what), model.first(h, what));
    }

    private void best(int looks, int years, int what) {
        due("best " + looks + " " + years + " " + what, x.best(looks, years, what), model.best(looks, years, what));
    }

    private void seed(int w) {
        due("seed " + w, x.seed(w), model.seed(w));
    }

    // ---- texts

    private String text() {
        String text = soundText();
        if (text.length() > 1500) {
            text = text.substring(0, 1500);
        }
        switch (random.nextInt(4)) {
            case 0: return spoilByte(text);
            case 1: return random.nextBoolean() ? spoilWord(text) : spoilLine(text);
            default: return text;
        }
    }

    private String pick(String... some) {
        return some[random.nextInt(some.length)];
    }

    private String soundText() {
        StringBuilder text = new StringBuilder();
        int kinds = random.nextInt(20) == 0 ? upTo(5) : 1 + random.nextInt(4);
        int persons = random.nextInt(8) == 0 ? 14 + random.nextInt(4) : upTo(9);
        List<String> told = new ArrayList<>();
        for (int k = 0; k < kinds; k++) {
            text.append("kind ").append((char) ('a' + k)).append(";");
        }
        boolean near = random.nextInt(3) != 0;
        for (int p = 0; p < persons; p++) {
            int earns = upTo(999);
            String name = (char) ('a' + p) + pick("", "", "x");
            text.append("person ").append(name).append(" kind ").append((char) ('a' + upTo(Math.max(0, kinds - 1))));
            text.append(" earns ").append(earns).append(" paper ").append(upTo(earns)).append(" signs ").append(upTo(15));
            if (near && p > 0 && random.nextInt(4) != 0) {
                neighbours(text, told);
            }
            text.append(pick(";", "; ", " ;\n"));
            told.add(name);
        }
        for (int k = 0; k < kinds; k++) {
            if (random.nextInt(5) != 0) {
                text.append("ways ").append((char) ('a' + k)).append(" ");
                sum(text, 0, random.nextInt(6) == 0 ? 9 : 3);
                text.append(";");
            }
        }
        if (random.nextBoolean()) {
            text.append("depth ").append(upTo(10)).append(" wrong ").append(upTo(10)).append(";");
        }
        if (random.nextInt(3) != 0) {
            text.append("teach found ").append(upTo(9)).append(" clean ").append(upTo(4)).append(" heard ")
                .append(upTo(3)).append(" letter ").append(upTo(4)).append(";");
        }
        return text.toString();
    }

    private void neighbours(StringBuilder text, List<String> told) {
        text.append(" near");
        List<String> left = new ArrayList<>(told);
        int count = 1 + random.nextInt(Math.min(3, left.size()));
        for (int i = 0; i < count; i++) {
            text.append(" ").append(left.remove(random.nextInt(left.size())));
        }
    }

    private void sum(StringBuilder text, int depth, int most) {
        term(text, depth, most);
        while (random.nextInt(3) == 0) {
            text.append(pick("+", "-", " + ", " - "));
            term(text, depth, most);
        }
    }

    private void term(StringBuilder text, int depth, int most) {
        unit(text, depth, most);
        for (int i = 0; i < 3 && random.nextInt(2) == 0; i++) {
            if (random.nextBoolean()) {
                text.append(pick("*", " * "));
                unit(text, depth, most);
            } else {
                text.append(pick("/", " / ")).append(1 + random.nextInt(pick("s", "l").equals("s") ? 12 : 9999));
            }
        }
    }

    private void unit(StringBuilder text, int depth, int most) {
        if (depth < most && random.nextInt(most > 3 ? 2 : 4) == 0) {
            text.append("(");
            sum(text, depth + 1, most);
            text.append(")");
        } else if (random.nextInt(4) == 0) {
            text.append(upTo(random.nextBoolean() ? 20 : 9999));
        } else {
            text.append(pick("earns", "paper", "belief", "belief", "last", "year"));
        }
    }

    private String spoilByte(String text) {
        int at = upTo(text.length());
        String put = pick("", " ", "\n", ";", "(", ")", "+", "-", "*", "/", "7", "0", "a", "z", "A", "\t", "\u00e9",
            "kind", "paper", " q ", " kind a ", "99999", "1000", "abcdefghi", "abcdefgh");
        int cut = Math.min(text.length(), at + random.nextInt(3));
        return text.substring(0, at) + put + text.substring(cut);
    }

    /** Tells a line, or a neighbour, once more. */
    private String spoilLine(String text) {
        String[] lines = text.split(";");
        int at = random.nextInt(lines.length);
        if (lines[at].contains("near")) {
            lines[at] += lines[at].stripTrailing().substring(lines[at].stripTrailing().lastIndexOf(' '));
        }
        String again = lines[random.nextInt(lines.length)];
        return String.join(";", lines) + ";" + again + ";";
    }

    /** Puts another word or number in the place of one that is there. */
    private String spoilWord(String text) {
        String[] parts = text.split(" ");
        int at = random.nextInt(parts.length);
        parts[at] = pick("a", "b", "c", "q", "0", "16", "11", "10", "1000", "999", "9999", "near", "kind", "ways",
            parts[random.nextInt(parts.length)]);
        return String.join(" ", parts);
    }
}
