import java.util.ArrayList;
import java.util.Comparator;
import java.util.HashMap;
import java.util.HashSet;
import java.util.LinkedHashMap;
import java.util.List;
import java.util.Map;
import java.util.Set;
import java.util.function.IntPredicate;
import java.util.stream.Collectors;
import java.util.stream.IntStream;

/** The document once more, slow and plain, by other means than the class: what it answers is held against it. */
final class Model {
    private static final int NONE = -1;
    private static final int NO_NUMBER = -1000000;
    private static final Set<String> OWN = Set.of("kind", "person", "earns", "paper", "signs", "near", "ways", "depth",
        "wrong", "teach", "found", "clean", "heard", "letter", "belief", "last", "year");

    /** A tree of a KIND's ways. */
    private record Node(String op, Node a, Node b) {
        int value(Map<String, Integer> env) {
            switch (op) {
                case "+": return a.value(env) + b.value(env);
                case "-": return a.value(env) - b.value(env);
                case "*": return a.value(env) * b.value(env);
                case "/": return a.value(env) / b.value(env);
                default: return env.containsKey(op) ? env.get(op) : Integer.parseInt(op);
            }
        }
    }

    private record Person(String name, String kind, int earns, int paper, int signs, Set<Integer> near) {
    }

    private record Token(String text, int place) {
        boolean isNumber() {
            return text.matches("[0-9]+");
        }

        boolean isName() {
            return text.matches("[a-z]+") && !OWN.contains(text);
        }
    }

    private static final class Fault extends RuntimeException {
        private static final long serialVersionUID = 1;
        final int number;
        final int place;

        Fault(int number, int place) {
            this.number = number;
            this.place = place;
        }
    }

    private static final class Land {
        final List<String> kinds = new ArrayList<>();
        final List<Person> persons = new ArrayList<>();
        final Map<String, Node> ways = new HashMap<>();
        int units;
        int[] house;
        int[] teach;

        int depth() {
            return house == null ? 10 : house[0];
        }

        int wrong() {
            return house == null ? 0 : house[1];
        }

        int teach(int i) {
            return teach == null ? new int[] {1, 1, 0, 1}[i] : teach[i];
        }

        int size() {
            return persons.size();
        }
    }

    /** One LOOK that was: of whom, what was found, whether by lot, whether wrong. */
    private record Look(int person, int found, boolean lot, boolean wrong) {
    }

    private record Past(int[] wrote, int[] paid, int matched, List<Look> looks, Set<Integer> letters) {
        int found(boolean lot) {
            return looks.stream().filter(l -> l.lot == lot).mapToInt(Look::found).sum();
        }

        int coin() {
            return IntStream.of(wrote).sum() + matched + found(true) + found(false);
        }

        long lots() {
            return looks.stream().filter(Look::lot).count();
        }

        boolean looked(int person) {
            return looks.stream().anyMatch(l -> l.person == person);
        }
    }

    /** What changes: never changed in place but copied, so that a BOX is but a reference. */
    private record State(List<Integer> believes, List<Past> years, int w) {
    }

    private final List<Byte> tape = new ArrayList<>();
    private Land land = new Land();
    private State state = new State(List.of(), List.of(), 1);
    private final Map<Integer, State> boxes = new HashMap<>();
    private int fault = 0;
    private int faultPlace = NONE;

    // ---- the text

    int feed(int... five) {
        if (tape.size() + 20 > 1600) {
            return NONE;
        }
        for (int n : five) {
            for (int i = 3; i >= 0; i--) {
                tape.add((byte) (n >> 8 * i));
            }
        }
        return tape.size();
    }

    int end(int n) {
        if (n < 0 || n > tape.size()) {
            return NONE;
        }
        tape.subList(n, tape.size()).clear();
        return n;
    }

    int land() {
        StringBuilder text = new StringBuilder();
        tape.forEach(b -> text.append((char) (b & 255)));
        try {
            Land read = new Parser(text.toString()).read();
            fault = 0;
            faultPlace = NONE;
            land = read;
        } catch (Fault f) {
            fault = f.number;
            faultPlace = f.place;
            return NONE;
        }
        tape.clear();
        boxes.clear();
        state = new State(land.persons.stream().map(p -> 5).collect(Collectors.toList()), List.of(), state.w);
        return land.size();
    }

    int fault(int what) {
        return what == 0 ? fault : what == 1 ? faultPlace : NONE;
    }

    private static final class Parser {
        final String text;
        final Land land = new Land();
        int at = 0;

        Parser(String text) {
            this.text = text;
        }

        /** The token at or behind the place where we are, not taken; null at the end. */
        Token peek() {
            int i = at;
            while (i < text.length() && (text.charAt(i) == ' ' || text.charAt(i) == '\n')) {
                i++;
            }
            if (i == text.length()) {
                return new Token("", i);
            }
            int j = i;
            if (Character.toString(text.charAt(i)).matches("[a-z]")) {
                while (j < text.length() && text.charAt(j) >= 'a' && text.charAt(j) <= 'z') {
                    j++;
                }
                if (j - i > 8) {
                    throw new Fault(1, i);
                }
            } else if (Character.toString(text.charAt(i)).matches("[0-9]")) {
                while (j < text.length() && text.charAt(j) >= '0' && text.charAt(j) <= '9') {
                    j++;
                }
                if (j - i > 4 || j < text.length() && text.charAt(j) >= 'a' && text.charAt(j) <= 'z') {
                    throw new Fault(1, i);
                }
            } else if (";()+-*/".indexOf(text.charAt(i)) >= 0) {
                j = i + 1;
            } else {
                throw new Fault(1, i);
            }
            return new Token(text.substring(i, j), i);
        }

        Token take() {
            Token t = peek();
            at = t.place + t.text.length();
            return t;
        }

        boolean next(String... some) {
            String t = peek().text;
            return List.of(some).contains(t);
        }

        Token need(String word) {
            Token t = take();
            if (!t.text.equals(word)) {
                throw new Fault(2, t.place);
            }
            return t;
        }

        Token name() {
            Token t = take();
            if (!t.isName()) {
                throw new Fault(2, t.place);
            }
            return t;
        }

        int number(String word, int most) {
            need(word);
            Token t = take();
            if (!t.isNumber()) {
                throw new Fault(2, t.place);
            }
            int n = Integer.parseInt(t.text);
            if (n > most) {
                throw new Fault(4, t.place);
            }
            return n;
        }

        Land read() {
            while (!peek().text.isEmpty()) {
                Token head = peek();
                switch (head.text) {
                    case "kind": kind(); break;
                    case "person": person(); break;
                    case "ways": ways(); break;
                    case "depth":
                        if (land.house != null) {
                            throw new Fault(2, head.place);
                        }
                        land.house = new int[] {number("depth", 10), number("wrong", 10)};
                        break;
                    case "teach":
                        if (land.teach != null) {
                            throw new Fault(2, head.place);
                        }
                        take();
                        land.teach = new int[] {number("found", 9), number("clean", 9), number("heard", 9),
                            number("letter", 9)};
                        break;
                    default: throw new Fault(2, head.place);
                }
                need(";");
            }
            return land;
        }

        void kind() {
            Token head = take();
            if (land.kinds.size() == 4) {
                throw new Fault(2, head.place);
            }
            Token name = name();
            if (land.kinds.contains(name.text)) {
                throw new Fault(3, name.place);
            }
            land.kinds.add(name.text);
        }

        int indexOf(String name) {
            for (int i = 0; i < land.size(); i++) {
                if (land.persons.get(i).name.equals(name)) {
                    return i;
                }
            }
            return NONE;
        }

        String knownKind() {
            Token name = name();
            if (!land.kinds.contains(name.text)) {
                throw new Fault(5, name.place);
            }
            return name.text;
        }

        void person() {
            Token head = take();
            if (land.size() == 16) {
                throw new Fault(2, head.place);
            }
            Token name = name();
            if (indexOf(name.text) != NONE) {
                throw new Fault(3, name.place);
            }
            need("kind");
            String kind = knownKind();
            int earns = number("earns", 999);
            int paper = number("paper", earns);
            int signs = number("signs", 15);
            Set<Integer> near = new HashSet<>();
            if (next("near")) {
                take();
                do {
                    Token other = name();
                    if (indexOf(other.text) == NONE) {
                        throw new Fault(5, other.place);
                    }
                    if (!near.add(indexOf(other.text))) {
                        throw new Fault(3, other.place);
                    }
                } while (peek().isName());
            }
            for (int other : near) {
                land.persons.get(other).near.add(land.size());
            }
            land.persons.add(new Person(name.text, kind, earns, paper, signs, near));
        }

        void ways() {
            take();
            Token name = name();
            if (!land.kinds.contains(name.text)) {
                throw new Fault(5, name.place);
            }
            if (land.ways.containsKey(name.text)) {
                throw new Fault(3, name.place);
            }
            land.ways.put(name.text, sum(0));
        }

        Node sum(int within) {
            Node a = term(within);
            while (next("+", "-")) {
                String op = take().text;
                a = new Node(op, a, term(within));
            }
            return a;
        }

        Node term(int within) {
            Node a = unit(within);
            while (next("*", "/")) {
                String op = take().text;
                a = new Node(op, a, op.equals("*") ? unit(within) : divisor());
            }
            return a;
        }

        void count(Token t) {
            land.units++;
            if (land.units > 40) {
                throw new Fault(2, t.place);
            }
        }

        Node divisor() {
            Token t = take();
            if (!t.isNumber()) {
                throw new Fault(2, t.place);
            }
            count(t);
            if (Integer.parseInt(t.text) == 0) {
                throw new Fault(4, t.place);
            }
            return new Node(t.text, null, null);
        }

        Node unit(int within) {
            Token t = take();
            if (t.text.equals("(")) {
                count(t);
                if (within == 7) {
                    throw new Fault(2, t.place);
                }
                Node inside = sum(within + 1);
                need(")");
                return inside;
            }
            if (!t.isNumber() && !List.of("earns", "paper", "belief", "last", "year").contains(t.text)) {
                throw new Fault(2, t.place);
            }
            count(t);
            return new Node(t.text, null, null);
        }
    }

    // ---- years

    private boolean isPerson(int p) {
        return p >= 0 && p < land.size();
    }

    private int lastWrote(State s, int p) {
        return s.years.isEmpty() ? 0 : s.years.get(s.years.size() - 1).wrote[p];
    }

    private int lastPaid(State s, int p) {
        return s.years.isEmpty() ? 0 : s.years.get(s.years.size() - 1).paid[p];
    }

    private int would(State s, int p) {
        Person q = land.persons.get(p);
        Node ways = land.ways.get(q.kind);
        if (ways == null) {
            return q.earns;
        }
        int v = ways.value(Map.of("earns", q.earns, "paper", q.paper, "belief", s.believes.get(p), "last",
            lastWrote(s, p), "year", s.years.size() + 1));
        return v < 0 ? 0 : v > q.earns ? q.earns : v;
    }

    private int allWould(State s) {
        return IntStream.range(0, land.size()).map(p -> would(s, p)).sum();
    }

    private List<Look> looks(State s) {
        return s.years.stream().flatMap(y -> y.looks.stream()).collect(Collectors.toList());
    }

    private int score(State s, int p) {
        int score = 0;
        for (int bit = 1; bit < 16; bit *= 2) {
            int sign = bit;
            if ((land.persons.get(p).signs & sign) != 0) {
                List<Look> such = looks(s).stream().filter(l -> (land.persons.get(l.person).signs & sign) != 0)
                    .collect(Collectors.toList());
                if (!such.isEmpty()) {
                    score += such.stream().mapToInt(Look::found).sum() * 1000 / such.size();
                }
            }
        }
        return score;
    }

    private List<Integer> smeltOrder(State s) {
        Map<Integer, Integer> scores = new LinkedHashMap<>();
        IntStream.range(0, land.size()).forEach(p -> scores.put(p, score(s, p)));
        return scores.keySet().stream()
            .sorted(Comparator.comparingInt((Integer p) -> -scores.get(p)).thenComparingInt(p -> p))
            .collect(Collectors.toList());
    }

    private static int step(int w) {
        return w * 1103515245 + 12345;
    }

    private static int pick(int w, int n) {
        return (w >>> 16) % n;
    }

    private static void shift(List<Integer> believes, int p, int by) {
        believes.set(p, Math.min(9, Math.max(0, believes.get(p) + by)));
    }

    private void teach(List<Integer> believes, int p, int found, boolean wrong) {
        if (found > 0 || wrong) {
            shift(believes, p, land.teach(0));
        } else {
            shift(believes, p, -land.teach(1));
        }
        if (found > 0) {
            for (int other : land.persons.get(p).near) {
                shift(believes, other, land.teach(2));
            }
        }
    }

    private State pass(State s, boolean match, int smelt, int lot, int letters) {
        int n = land.size();
        int[] wrote = IntStream.range(0, n).map(p -> would(s, p)).toArray();
        int[] paid = wrote.clone();
        int matched = 0;
        for (int p = 0; match && p < n; p++) {
            int paper = land.persons.get(p).paper;
            if (wrote[p] < paper) {
                matched += paper - wrote[p];
                paid[p] = paper;
            }
        }
        int w = s.w;
        List<Integer> order = new ArrayList<>(smeltOrder(s).subList(0, smelt));
        List<Integer> left = IntStream.range(0, n).boxed().filter(p -> !order.contains(p))
            .collect(Collectors.toList());
        for (int i = 0; i < lot; i++) {
            w = step(w);
            order.add(left.remove(pick(w, left.size())));
        }
        List<Integer> believes = new ArrayList<>(s.believes);
        List<Look> looks = new ArrayList<>();
        for (int i = 0; i < order.size(); i++) {
            int p = order.get(i);
            int found = (land.persons.get(p).earns - paid[p]) * land.depth() / 10;
            boolean wrong = false;
            if (land.wrong() != 0) {
                w = step(w);
                wrong = pick(w, 10) < land.wrong();
            }
            paid[p] += found;
            looks.add(new Look(p, found, i >= smelt, wrong));
            teach(believes, p, found, wrong);
        }
        List<Integer> others = IntStream.range(0, n).boxed().filter(p -> !order.contains(p))
            .collect(Collectors.toList());
        Set<Integer> lettered = new HashSet<>();
        for (int i = 0; i < letters; i++) {
            w = step(w);
            int p = others.remove(pick(w, others.size()));
            lettered.add(p);
            shift(believes, p, land.teach(3));
        }
        List<Past> years = new ArrayList<>(s.years);
        years.add(new Past(wrote, paid, matched, looks, lettered));
        return new State(believes, years, w);
    }

    int year(boolean match, int smelt, int lot, int letters) {
        if (smelt < 0 || lot < 0 || letters < 0 || (long) smelt + lot + letters > land.size()
            || state.years.size() == 30) {
            return NONE;
        }
        state = pass(state, match, smelt, lot, letters);
        return past(state.years.size()).coin();
    }

    private Past past(int year) {
        return year < 1 || year > state.years.size() ? null : state.years.get(year - 1);
    }

    // ---- what is asked

    private long count(IntPredicate which) {
        return IntStream.range(0, land.size()).filter(which).count();
    }

    int person(int p, int what) {
        if (!isPerson(p)) {
            return NONE;
        }
        switch (what) {
            case 0: return state.believes.get(p);
            case 1: return lastWrote(state, p);
            case 2: return lastPaid(state, p);
            case 3: return (int) looks(state).stream().filter(l -> l.person == p).count();
            case 4: return (int) looks(state).stream().filter(l -> l.person == p && l.wrong).count();
            case 5: return would(state, p);
            default: return NONE;
        }
    }

    int score(int p) {
        return isPerson(p) ? score(state, p) : NONE;
    }

    int smelt(int i) {
        return isPerson(i) ? smeltOrder(state).get(i) : NONE;
    }

    int sum(int year, int what) {
        Past y = past(year);
        if (y == null) {
            return NONE;
        }
        switch (what) {
            case 0: return y.coin();
            case 1: return land.persons.stream().mapToInt(Person::earns).sum() - y.coin();
            case 2: return y.found(false);
            case 3: return y.found(true);
            case 4: return y.matched;
            case 5: return (int) y.looks.stream().filter(Look::wrong).count();
            default: return NONE;
        }
    }

    private static int[] lowest(long upper, long lower) {
        long g = java.math.BigInteger.valueOf(upper).gcd(java.math.BigInteger.valueOf(lower)).longValue();
        return new int[] {(int) (upper / g), (int) (lower / g)};
    }

    private int[] estimate(Past y) {
        return lowest(y.found(true) * land.size() + y.found(false) * y.lots(), y.lots());
    }

    int estimate(int year, int part) {
        Past y = past(year);
        return y == null || y.lots() == 0 || part < 0 || part > 1 ? NONE : estimate(y)[part];
    }

    int line(boolean high) {
        IntStream cuts = state.years.stream().filter(y -> y.lots() > 0).mapToInt(y -> estimate(y)[0] / estimate(y)[1]);
        return (high ? cuts.max() : cuts.min()).orElse(NONE);
    }

    int blind() {
        Set<Integer> rows = new HashSet<>();
        land.persons.forEach(p -> rows.add(p.signs));
        looks(state).forEach(l -> rows.remove(land.persons.get(l.person).signs));
        return rows.size();
    }

    int kind(int kind, int what) {
        if (kind < 0 || kind >= land.kinds.size()) {
            return NONE;
        }
        IntPredicate of = p -> land.persons.get(p).kind.equals(land.kinds.get(kind));
        switch (what) {
            case 0: return (int) count(of);
            case 1: return (int) looks(state).stream().filter(l -> of.test(l.person)).count();
            case 2: return looks(state).stream().filter(l -> of.test(l.person)).mapToInt(Look::found).sum();
            case 3: return IntStream.range(0, land.size()).filter(of)
                .map(p -> land.persons.get(p).earns - lastPaid(state, p)).sum();
            default: return NONE;
        }
    }

    int owed(int kind) {
        if (kind < 0 || kind >= land.kinds.size()) {
            return NONE;
        }
        return 10 * (int) looks(state).stream()
            .filter(l -> l.wrong && land.persons.get(l.person).kind.equals(land.kinds.get(kind))).count();
    }

    int fairest() {
        List<Integer> shares = new ArrayList<>();
        for (int k = 0; k < land.kinds.size(); k++) {
            if (kind(k, 0) > 0) {
                shares.add(kind(k, 1) * 1000 / kind(k, 0));
            }
        }
        shares.sort(null);
        return shares.isEmpty() ? NONE : shares.get(shares.size() - 1) - shares.get(0);
    }

    int hears(int a, int b) {
        if (!isPerson(a) || !isPerson(b)) {
            return NONE;
        }
        Map<Integer, Integer> steps = new HashMap<>(Map.of(a, 0));
        List<Integer> queue = new ArrayList<>(List.of(a));
        for (int i = 0; i < queue.size(); i++) {
            int p = queue.get(i);
            for (int q : land.persons.get(p).near) {
                if (steps.putIfAbsent(q, steps.get(p) + 1) == null) {
                    queue.add(q);
                }
            }
        }
        return steps.getOrDefault(b, 99);
    }

    /** Upper and lower part for one choice of those not looked at, null if there is none. */
    private int[] effect(int year, Set<Integer> chosen) {
        Past here = past(year);
        int s1 = 0;
        int n1 = 0;
        int s2 = 0;
        int n2 = 0;
        for (int p = 0; p < land.size(); p++) {
            int change = past(year + 1).wrote[p] - here.wrote[p];
            if (!here.looked(p) && chosen.contains(p)) {
                s1 += change;
                n1++;
            } else if (!here.looked(p)) {
                s2 += change;
                n2++;
            }
        }
        return n1 == 0 || n2 == 0 ? null : lowest((long) s1 * n2 - (long) s2 * n1, (long) n1 * n2);
    }

    private boolean hasEffect(int year) {
        return past(year) != null && past(year + 1) != null && effect(year, past(year).letters) != null;
    }

    int did(int year, int part) {
        return !hasEffect(year) || part < 0 || part > 1 ? NO_NUMBER : effect(year, past(year).letters)[part];
    }

    int luck(int year, int part) {
        if (!hasEffect(year) || part < 0 || part > 1) {
            return NONE;
        }
        int[] due = effect(year, past(year).letters);
        int all = 0;
        int noLess = 0;
        for (int mask = 0; mask < 1 << land.size(); mask++) {
            if (Integer.bitCount(mask) == past(year).letters.size()) {
                int bits = mask;
                Set<Integer> chosen = IntStream.range(0, land.size()).filter(p -> (bits >> p & 1) != 0).boxed()
                    .collect(Collectors.toSet());
                if (chosen.stream().noneMatch(past(year)::looked)) {
                    int[] got = effect(year, chosen);
                    all++;
                    noLess += (long) got[0] * due[1] >= (long) due[0] * got[1] ? 1 : 0;
                }
            }
        }
        return lowest(noLess, all)[part];
    }

    private int[] spread(Set<Integer> from, int h) {
        Set<Integer> gone = new HashSet<>(from);
        int rounds = 0;
        while (true) {
            Set<Integer> more = new HashSet<>();
            for (int p = 0; p < land.size(); p++) {
                Set<Integer> near = land.persons.get(p).near;
                if (!gone.contains(p) && !near.isEmpty()
                    && near.stream().filter(gone::contains).count() * 10 >= (long) h * near.size()) {
                    more.add(p);
                }
            }
            if (more.isEmpty()) {
                return new int[] {rounds, gone.size()};
            }
            rounds++;
            gone.addAll(more);
        }
    }

    int goes(int persons, int h, int what) {
        if (persons <= 0 || (long) persons >= 1L << land.size() || h < 1 || h > 10 || what < 0 || what > 1) {
            return NONE;
        }
        return spread(IntStream.range(0, 16).filter(p -> (persons >> p & 1) != 0).boxed().collect(Collectors.toSet()),
            h)[what];
    }

    int first(int h, int what) {
        if (land.size() == 0 || h < 1 || h > 10 || what < 0 || what > 1) {
            return NONE;
        }
        int best = 0;
        for (int p = 1; p < land.size(); p++) {
            if (spread(Set.of(p), h)[1] > spread(Set.of(best), h)[1]) {
                best = p;
            }
        }
        return what == 0 ? best : spread(Set.of(best), h)[1];
    }

    int worth(int p) {
        if (!isPerson(p) || state.years.isEmpty()) {
            return NO_NUMBER;
        }
        int found = (land.persons.get(p).earns - lastPaid(state, p)) * land.depth() / 10;
        List<Integer> believes = new ArrayList<>(state.believes);
        teach(believes, p, found, false);
        return found + allWould(new State(believes, state.years, state.w)) - allWould(state);
    }

    int best(int looks, int years, int what) {
        if (looks < 0 || looks > 6 || looks > land.size() || years < 1 || years > 3 || what < 0 || what > 1) {
            return NONE;
        }
        int best = NONE;
        int bestSmelt = 0;
        for (int s = looks; s >= 0; s--) {
            State trial = state;
            for (int y = 0; y < years; y++) {
                trial = pass(trial, false, s, looks - s, 0);
            }
            int coin = trial.years.subList(state.years.size(), trial.years.size()).stream().mapToInt(Past::coin).sum();
            if (coin >= best) {
                best = coin;
                bestSmelt = s;
            }
        }
        return what == 0 ? bestSmelt : best;
    }

    int known(boolean lot, int n) {
        if (land.size() == 0 || n < 0 || n > land.size()) {
            return NONE;
        }
        List<Integer> smelt = smeltOrder(state).subList(0, n);
        List<Integer> believes = IntStream.range(0, land.size()).boxed()
            .map(p -> lot ? 9 * n / land.size() : smelt.contains(p) ? 9 : 0).collect(Collectors.toList());
        return allWould(new State(believes, state.years, state.w));
    }

    int game(int n) {
        return known(true, n) == NONE ? NONE : known(true, n) >= known(false, n) ? 1 : 0;
    }

    int image(int box) {
        if (box < 0 || box > 2) {
            return NONE;
        }
        boxes.put(box, state);
        return state.years.size();
    }

    int back(int box) {
        if (!boxes.containsKey(box)) {
            return NONE;
        }
        state = boxes.get(box);
        return state.years.size();
    }

    int seed(int w) {
        int before = state.w;
        state = new State(state.believes, state.years, w);
        return before;
    }

    int about(int what) {
        switch (what) {
            case 0: return land.kinds.size();
            case 1: return land.size();
            case 2: return state.years.size();
            case 3: return state.w;
            case 4: return tape.size();
            case 5: return land.depth();
            case 6: return land.wrong();
            case 7: return land.units;
            default: return NONE;
        }
    }
}
