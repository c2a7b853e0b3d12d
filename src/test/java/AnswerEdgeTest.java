/** The edges that ==== 3. to ==== 5. and promises 10 to 29 name: one method for each sentence. */
public final class AnswerEdgeTest {
    private static final int NONE = Due.NONE;
    private static final int NO_NUMBER = Due.NO_NUMBER;
    private static final int MAX = Integer.MAX_VALUE;
    private static final int MIN = Integer.MIN_VALUE;
    private static final int[] NO_WHAT_OF_TWO = {-1, 2, MAX, MIN};
    private static final int[] NO_SHARE = {-1, 0, 11, MAX, MIN};
    /** a earns 100, b 200, c 300; nobody writes anything; each has a sign of its own. */
    private static final String SILENT = "kind k;" + Due.person("a", "k", 100, 0, 1) + ";"
        + Due.person("b", "k", 200, 0, 2) + ";" + Due.person("c", "k", 300, 0, 4) + ";ways k 0;";
    /** Four who write as they BELIEVE; LETTERS alone teach. */
    private static final String FOUR = Due.crowd(4, 100) + "teach found 0 clean 0 heard 0 letter 1;";

    public static void main(String[] args) {
        estimateWithoutLot();
        estimateOutside();
        estimateLowest();
        estimateFull();
        blindRows();
        blindEverLookedAt();
        kindOutside();
        kindWithoutPersons();
        kindGapAheadOfAny();
        fairestWithoutPersons();
        fairestOfKindsWithPersons();
        fairestCut();
        hearsNone();
        hearsOutside();
        didOfTheLatest();
        didBothMustBeThere();
        didOfThoseNotLookedAt();
        didBelowZero();
        didLowest();
        didOutside();
        luckNoLess();
        luckOutermost();
        luckNone();
        goesOutside();
        goesWithNeighbours();
        goesNoFewer();
        goesAsItBegan();
        goesAsLongAsAny();
        firstLikeOnes();
        firstOutside();
        owed();
        lineOfYearsWithLots();
        lineCut();
        worthNone();
        worthBelowZero();
        worthWithoutWrong();
        worthOnceMore();
        worthOutermost();
        bestOutside();
        bestLikeOnes();
        bestMost();
        bestEachYear();
        bestStays();
        bestBeyondThirty();
        knownOutside();
        knownCut();
        knownSmelt();
        knownStays();
        gameLikeOnes();
        smeltOutside();
        imageOutside();
        imageKeepsAll();
        backForgets();
        imageFull();
        backOfNothing();
        backAsItWas();
        seeds();
        abouts();
        Due.finish();
    }

    private static void due(String call, int got, int want) {
        Due.due(call, got, want);
    }

    private static void estimateWithoutLot() {
        Due.sentence("estimate: NONE if there was no LOT in it");
        LotHouse x = Due.told(SILENT);
        x.year(false, 3, 0, 0);
        x.year(false, 0, 0, 3);
        x.year(false, 0, 1, 0);
        for (int part = 0; part < 2; part++) {
            due("estimate(1, " + part + ")", x.estimate(1, part), NONE);
            due("estimate(2, " + part + ")", x.estimate(2, part), NONE);
        }
        due("estimate(3, 1)", x.estimate(3, 1), 1);
    }

    private static void estimateOutside() {
        Due.sentence("estimate: NONE if .. one can't be");
        LotHouse x = Due.told(SILENT);
        due("estimate(1, 0) ahead of any YEAR", x.estimate(1, 0), NONE);
        x.year(false, 0, 3, 0);
        for (int year : new int[] {-1, 0, 2, 30, 31, MAX, MIN}) {
            due("estimate(" + year + ", 0)", x.estimate(year, 0), NONE);
            due("estimate(" + year + ", 1)", x.estimate(year, 1), NONE);
        }
        for (int part : NO_WHAT_OF_TWO) {
            due("estimate(1, " + part + ")", x.estimate(1, part), NONE);
        }
    }

    private static void estimateLowest() {
        Due.sentence("ESTIMATE ..: a fraction in lowest terms");
        String four = "kind k;" + Due.person("a", "k", 1, 0, 0) + ";" + Due.person("b", "k", 2, 0, 0) + ";"
            + Due.person("c", "k", 4, 0, 0) + ";" + Due.person("d", "k", 9, 0, 0) + ";ways k 0;";
        // by LOT b, c, d: 15 * 4 / 3 and a's 1
        LotHouse x = Due.told(four);
        x.year(false, 1, 3, 0);
        due("estimate(1, 0)", x.estimate(1, 0), 21);
        due("estimate(1, 1)", x.estimate(1, 1), 1);
        // by LOT a, b, c of four: 7 * 4 / 3
        x = Due.told(four);
        x.seed(Due.seedFor(4, 3, 2, 0, 0, 0));
        x.year(false, 0, 3, 0);
        due("estimate(1, 0)", x.estimate(1, 0), 28);
        due("estimate(1, 1)", x.estimate(1, 1), 3);
        // c and d of those left over, 13 * 4 / 2, and a's 1; of no LOOK by LOT anything
        x = Due.told(four);
        x.seed(Due.seedFor(3, 2, 1, 1));
        x.year(false, 1, 2, 0);
        due("estimate(1, 0)", x.estimate(1, 0), 27);
        due("estimate(1, 1)", x.estimate(1, 1), 1);
        x = Due.told(Due.crowd(4, 9));
        x.year(false, 1, 3, 0);
        due("estimate(1, 0) of nothing", x.estimate(1, 0), 0);
        due("estimate(1, 1) of nothing", x.estimate(1, 1), 1);
    }

    private static void estimateFull() {
        Due.sentence("ESTIMATE: FOUND by LOT * PERSONS / how many .., and all that SMELT ones were found (the most)");
        LotHouse x = Due.told(Due.crowd(16, 999) + "ways k 0;");
        x.year(false, 15, 1, 0);
        due("estimate(1, 0)", x.estimate(1, 0), 999 * 31);
        due("estimate(1, 1)", x.estimate(1, 1), 1);
        x.year(false, 0, 16, 0);
        due("estimate(2, 0)", x.estimate(2, 0), 999 * 16);
        due("line(true)", x.line(true), 999 * 31);
        due("line(false)", x.line(false), 999 * 16);
    }

    private static void blindRows() {
        Due.sentence("BLIND: how many of the 16 rows of signs some PERSON has");
        due("blind() of nobody", new LotHouse().blind(), 0);
        StringBuilder text = new StringBuilder("kind k;");
        for (int p = 0; p < 16; p++) {
            text.append(Due.person(Character.toString('a' + p), "k", 9, 0, p)).append(";");
        }
        LotHouse x = Due.told(text.toString());
        due("blind() of all 16", x.blind(), 16);
        x.year(false, 1, 0, 0);
        due("blind(), row 0 was seen", x.blind(), 15);
        x.year(false, 15, 0, 0);
        due("blind(), row 15 was not", x.blind(), 1);
        x.year(false, 16, 0, 0);
        due("blind() of none", x.blind(), 0);
        due("blind() of one row", Due.told(Due.crowd(16, 9)).blind(), 1);
    }

    private static void blindEverLookedAt() {
        Due.sentence("rows .. of which nobody was ever looked at");
        LotHouse x = Due.told("kind k;" + Due.person("a", "k", 9, 0, 3) + ";" + Due.person("b", "k", 9, 0, 3) + ";"
            + Due.person("c", "k", 9, 0, 1) + ";");
        due("blind()", x.blind(), 2);
        x.year(false, 0, 0, 3);
        due("blind(), LETTERS are no LOOKS", x.blind(), 2);
        x.year(false, 1, 0, 0);
        due("blind(), nothing was FOUND", x.blind(), 1);
        x.year(false, 0, 0, 0);
        due("blind() in a later YEAR", x.blind(), 1);
        x.seed(Due.seedFor(3, 2));
        x.year(false, 0, 1, 0);
        due("blind(), by LOT", x.blind(), 0);
    }

    private static void kindOutside() {
        Due.sentence("kind: NONE if there is none such, or for another what");
        LotHouse x = Due.told(SILENT + "kind l;");
        for (int kind : new int[] {-1, 2, 4, MAX, MIN}) {
            for (int what = -1; what <= 4; what++) {
                due("kind(" + kind + ", " + what + ")", x.kind(kind, what), NONE);
            }
            due("owed(" + kind + ")", x.owed(kind), NONE);
        }
        for (int what : new int[] {-1, 4, MAX, MIN}) {
            due("kind(0, " + what + ")", x.kind(0, what), NONE);
            due("kind(1, " + what + ")", x.kind(1, what), NONE);
        }
        due("kind(0, 0) of an empty LAND", new LotHouse().kind(0, 0), NONE);
    }

    private static void kindWithoutPersons() {
        Due.sentence("Of a KIND: LOOKS, what was FOUND, the GAP (of one without PERSONS)");
        LotHouse x = Due.told("kind l;" + SILENT + "depth 10 wrong 10;");
        x.year(false, 3, 0, 0);
        int[] rows = {3, 3, 600, 0};
        for (int what = 0; what < 4; what++) {
            due("kind(0, " + what + ")", x.kind(0, what), 0);
            due("kind(1, " + what + ")", x.kind(1, what), rows[what]);
        }
        due("owed(0)", x.owed(0), 0);
        due("owed(1)", x.owed(1), 30);
    }

    private static void kindGapAheadOfAny() {
        Due.sentence("the GAP of the latest YEAR (all that they earn ahead of any)");
        LotHouse x = Due.told("kind k;kind l;" + Due.person("a", "k", 100, 60, 0) + ";" + Due.person("b", "l", 50, 0, 0)
            + ";ways k 10 * year;depth 5 wrong 10;");
        due("kind(0, 3)", x.kind(0, 3), 100);
        due("kind(1, 3)", x.kind(1, 3), 50);
        x.image(0);
        x.year(false, 1, 0, 0);
        due("kind(0, 3)", x.kind(0, 3), 45);
        due("kind(1, 3)", x.kind(1, 3), 0);
        x.year(false, 0, 0, 0);
        due("kind(0, 3), the latest alone", x.kind(0, 3), 80);
        x.year(true, 0, 0, 0);
        due("kind(0, 3), MATCHED", x.kind(0, 3), 40);
        x.back(0);
        due("kind(1, 3), ahead of any once more", x.kind(1, 3), 50);
    }

    private static void fairestWithoutPersons() {
        Due.sentence("FAIREST; NONE without PERSONS");
        due("fairest() of an empty LAND", new LotHouse().fairest(), NONE);
        due("fairest() of KINDS alone", Due.told("kind k;kind l;").fairest(), NONE);
        LotHouse x = Due.told(SILENT);
        due("fairest() of one KIND", x.fairest(), 0);
        x.year(false, 1, 0, 0);
        due("fairest() of one KIND", x.fairest(), 0);
    }

    private static void fairestOfKindsWithPersons() {
        Due.sentence("the greatest and the least share of LOOKS .. of KINDS that have PERSONS");
        LotHouse x = Due.told("kind e;" + SILENT + "kind f;");
        x.year(false, 3, 0, 0);
        due("fairest()", x.fairest(), 0);
        x = Due.told("kind e;kind k;kind l;" + Due.person("a", "k", 9, 0, 0) + ";" + Due.person("b", "l", 9, 0, 0) + ";");
        due("fairest()", x.fairest(), 0);
        x.year(false, 1, 0, 0);
        due("fairest()", x.fairest(), 1000);
        x.year(false, 1, 0, 0);
        due("fairest(), twice", x.fairest(), 2000);
        x.year(false, 2, 0, 0);
        due("fairest(), thrice and once", x.fairest(), 2000);
    }

    private static void fairestCut() {
        Due.sentence("(LOOKS * 1000 / PERSONS of the KIND, cut)");
        // 666 of k's three, 333 of l's three: each is cut ahead of what is between
        LotHouse x = Due.told("kind k;kind l;" + Due.person("a", "k", 9, 0, 0) + ";" + Due.person("b", "k", 9, 0, 0)
            + ";" + Due.person("c", "l", 9, 0, 0) + ";" + Due.person("d", "l", 9, 0, 0) + ";"
            + Due.person("e", "l", 9, 0, 0) + ";" + Due.person("f", "k", 9, 0, 0) + ";");
        x.year(false, 3, 0, 0);
        due("fairest()", x.fairest(), 333);
        x.year(false, 2, 0, 0);
        // 4 of 3 and 1 of 3
        due("fairest()", x.fairest(), 1000);
        x.year(false, 4, 0, 0);
        // 6 of 3 and 3 of 3
        due("fairest()", x.fairest(), 1000);
        x.year(false, 2, 0, 0);
        // 8 of 3 and 3 of 3
        due("fairest()", x.fairest(), 1666);
    }

    private static void hearsNone() {
        Due.sentence("HEARS: how many steps from one to another one by neighbours (99: none)");
        LotHouse x = Due.told(Due.chain(16));
        for (int p = 0; p < 16; p++) {
            due("hears(0, " + p + ")", x.hears(0, p), p);
            due("hears(" + p + ", 15)", x.hears(p, 15), 15 - p);
        }
        x = Due.told(Due.crowd(2, 9) + Due.person("c", "k", 9, 0, 0) + " near b;");
        due("hears(0, 1)", x.hears(0, 1), 99);
        due("hears(2, 0)", x.hears(2, 0), 99);
        due("hears(1, 2)", x.hears(1, 2), 1);
        due("hears(0, 0)", x.hears(0, 0), 0);
        // of two ways the one with fewer steps
        x = Due.told(Due.chain(5) + Due.person("z", "k", 9, 0, 0) + " near a e;");
        due("hears(0, 4)", x.hears(0, 4), 2);
        due("hears(1, 4)", x.hears(1, 4), 3);
    }

    private static void hearsOutside() {
        Due.sentence("HEARS; NONE if one is none");
        LotHouse x = Due.told(Due.chain(3));
        for (int p : new int[] {-1, 3, 16, 32, MAX, MIN}) {
            due("hears(0, " + p + ")", x.hears(0, p), NONE);
            due("hears(" + p + ", 0)", x.hears(p, 0), NONE);
            due("hears(" + p + ", " + p + ")", x.hears(p, p), NONE);
        }
        due("hears(0, 0) of nobody", new LotHouse().hears(0, 0), NONE);
    }

    private static void didOfTheLatest() {
        Due.sentence("DID of a YEAR (the latest has none)");
        LotHouse x = Due.told(FOUR + "ways k belief * 10;");
        x.year(false, 0, 0, 2);
        x.image(0);
        due("did(1, 0)", x.did(1, 0), NO_NUMBER);
        due("luck(1, 0)", x.luck(1, 0), NONE);
        x.year(false, 0, 0, 1);
        due("did(1, 0)", x.did(1, 0), 10);
        due("did(2, 0)", x.did(2, 0), NO_NUMBER);
        x.back(0);
        due("did(1, 0), the latest once more", x.did(1, 0), NO_NUMBER);
        for (int year = 2; year <= 30; year++) {
            x.year(false, 0, 0, 1);
        }
        due("did(29, 1)", x.did(29, 1), 1);
        due("did(30, 1)", x.did(30, 1), NO_NUMBER);
        due("luck(30, 1)", x.luck(30, 1), NONE);
    }

    private static void didBothMustBeThere() {
        Due.sentence("those who got a LETTER, and those who got none (both must be there)");
        // SMELT, by LOT, LETTERS of four; whether there is a DID
        int[][] rows = {{0, 0, 0, 0}, {0, 0, 1, 1}, {0, 0, 3, 1}, {0, 0, 4, 0}, {2, 0, 1, 1}, {1, 1, 1, 1}, {2, 1, 1, 0},
            {1, 1, 2, 0}, {4, 0, 0, 0}, {0, 3, 0, 0}, {0, 3, 1, 0}};
        for (int[] row : rows) {
            LotHouse x = Due.told(FOUR + "ways k belief * 10;");
            x.year(false, row[0], row[1], row[2]);
            x.year(false, 0, 0, 0);
            String year = "behind " + row[0] + ", " + row[1] + ", " + row[2];
            due("did(1, 0) " + year, x.did(1, 0), row[3] == 1 ? 10 : NO_NUMBER);
            due("did(1, 1) " + year, x.did(1, 1), row[3] == 1 ? 1 : NO_NUMBER);
            due("luck(1, 0) " + year, x.luck(1, 0), row[3] == 1 ? 1 : NONE);
        }
    }

    private static void didOfThoseNotLookedAt() {
        Due.sentence("DID ..: of those not looked at in it");
        // a is looked at and writes 20 more, b gets the LETTER of two, c none
        LotHouse x = Due.told(SILENT.replace("ways k 0;", "ways k belief * 10;")
            + "teach found 2 clean 0 heard 0 letter 1;");
        x.seed(Due.seedFor(2, 0));
        x.year(false, 1, 0, 1);
        x.year(false, 0, 0, 0);
        due("person(0, 1)", x.person(0, 1), 70);
        due("did(1, 0)", x.did(1, 0), 10);
        due("luck(1, 1)", x.luck(1, 1), 2);
        // a LOOK in the next YEAR is no matter
        x = Due.told(FOUR + "ways k belief * 10;");
        x.year(false, 0, 0, 1);
        x.year(true, 4, 0, 0);
        due("did(1, 0)", x.did(1, 0), 10);
        due("luck(1, 1)", x.luck(1, 1), 4);
    }

    private static void didBelowZero() {
        Due.sentence("upper part (0; it may be below 0)");
        LotHouse x = Due.told(FOUR + "ways k 100 - belief * 10;");
        x.year(false, 0, 0, 2);
        x.year(false, 0, 0, 0);
        due("did(1, 0)", x.did(1, 0), -10);
        due("did(1, 1)", x.did(1, 1), 1);
        // the one upper part that is also NONE
        x = Due.told(FOUR + "ways k 100 - belief;");
        x.year(false, 0, 0, 2);
        x.year(false, 0, 0, 0);
        due("did(1, 0)", x.did(1, 0), -1);
        due("did(1, 1)", x.did(1, 1), 1);
        x = Due.told("kind k;" + Due.person("a", "k", 999, 0, 0) + ";" + Due.person("b", "k", 999, 0, 0)
            + ";ways k (6 - belief) * 999;");
        x.year(false, 0, 0, 1);
        x.year(false, 0, 0, 0);
        due("did(1, 0), the least", x.did(1, 0), -999);
    }

    private static void didLowest() {
        Due.sentence("the mean of the first ones less that of the others, a fraction in lowest terms");
        String three = "kind k;" + Due.person("a", "k", 100, 0, 0) + ";" + Due.person("b", "k", 200, 0, 0) + ";"
            + Due.person("c", "k", 410, 0, 0) + ";";
        // a and c get LETTERS and write 1 and 4 more, or less
        for (int sign = -1; sign <= 1; sign += 2) {
            LotHouse x = Due.told(three + "ways k " + (sign < 0 ? "earns - " : "") + "belief * earns / 100;");
            x.seed(Due.seedFor(3, 2, 2, 0));
            x.year(false, 0, 0, 2);
            x.year(false, 0, 0, 0);
            due("did(1, 0)", x.did(1, 0), sign * 5);
            due("did(1, 1)", x.did(1, 1), 2);
        }
        LotHouse x = Due.told(three + "ways k 7;");
        x.year(false, 0, 0, 2);
        x.year(false, 0, 0, 0);
        due("did(1, 0) of nothing", x.did(1, 0), 0);
        due("did(1, 1) of nothing", x.did(1, 1), 1);
    }

    private static void didOutside() {
        Due.sentence("did: -1000000 if there is none");
        LotHouse x = Due.told(FOUR + "ways k belief * 10;");
        due("did(1, 0) ahead of any YEAR", x.did(1, 0), NO_NUMBER);
        x.year(false, 0, 0, 2);
        x.year(false, 0, 0, 2);
        for (int year : new int[] {-1, 0, 2, 3, 29, 30, 31, MAX, MIN}) {
            due("did(" + year + ", 0)", x.did(year, 0), NO_NUMBER);
            due("did(" + year + ", 1)", x.did(year, 1), NO_NUMBER);
        }
        for (int part : NO_WHAT_OF_TWO) {
            due("did(1, " + part + ")", x.did(1, part), NO_NUMBER);
        }
        due("did(1, 0) of nobody", new LotHouse().did(1, 0), NO_NUMBER);
    }

    private static void luckNoLess() {
        Due.sentence("LUCK: of all choices of as many .. that share by which this is no less");
        // d is looked at and found, c hears of it, a gets the LETTER: c would have done as well
        String text = "kind k;kind l;" + Due.person("d", "l", 100, 0, 0) + ";" + Due.person("a", "k", 100, 0, 0) + ";"
            + Due.person("b", "k", 100, 0, 0) + ";" + Due.person("c", "k", 100, 0, 0) + " near d;"
            + "ways k belief * 10;ways l 0;teach found 1 clean 1 heard 1 letter 1;";
        LotHouse x = Due.told(text);
        x.seed(Due.seedFor(3, 0));
        x.year(false, 1, 0, 1);
        x.year(false, 0, 0, 0);
        due("did(1, 0)", x.did(1, 0), 5);
        due("luck(1, 0)", x.luck(1, 0), 2);
        due("luck(1, 1)", x.luck(1, 1), 3);
        x = Due.told(FOUR + "ways k belief * 10;");
        x.year(false, 0, 0, 2);
        x.year(false, 0, 0, 0);
        due("luck(1, 0)", x.luck(1, 0), 1);
        due("luck(1, 1)", x.luck(1, 1), 6);
        // by one coin alone
        x = Due.told(FOUR + "ways k belief;");
        x.year(false, 0, 0, 2);
        x.year(false, 0, 0, 0);
        due("luck(1, 0)", x.luck(1, 0), 1);
        due("luck(1, 1)", x.luck(1, 1), 6);
    }

    private static void luckOutermost() {
        Due.sentence("LUCK: .. in lowest terms");
        for (String way : new String[] {"7", "100 - belief * 10"}) {
            LotHouse x = Due.told(FOUR + "ways k " + way + ";");
            x.year(false, 0, 0, 2);
            x.year(false, 0, 0, 0);
            due("luck(1, 0), no choice is less", x.luck(1, 0), 1);
            due("luck(1, 1), no choice is less", x.luck(1, 1), 1);
        }
        int[] choices = {16, 120, 560, 1820, 4368, 8008, 11440, 12870, 11440, 8008, 4368, 1820, 560, 120, 16};
        for (int letters = 1; letters <= 15; letters++) {
            LotHouse x = Due.told(Due.crowd(16, 100) + "ways k belief * 10;");
            x.year(false, 0, 0, letters);
            x.year(false, 0, 0, 0);
            due("luck(1, 0) of " + letters, x.luck(1, 0), 1);
            due("luck(1, 1) of " + letters, x.luck(1, 1), choices[letters - 1]);
        }
    }

    private static void luckNone() {
        Due.sentence("luck: NONE if there is none");
        LotHouse x = Due.told(FOUR + "ways k belief * 10;");
        due("luck(1, 0) ahead of any YEAR", x.luck(1, 0), NONE);
        x.year(false, 0, 0, 2);
        x.year(false, 0, 0, 2);
        for (int year : new int[] {-1, 0, 2, 3, 29, 30, 31, MAX, MIN}) {
            due("luck(" + year + ", 0)", x.luck(year, 0), NONE);
            due("luck(" + year + ", 1)", x.luck(year, 1), NONE);
        }
        for (int part : NO_WHAT_OF_TWO) {
            due("luck(1, " + part + ")", x.luck(1, part), NONE);
        }
    }

    private static void goesOutside() {
        Due.sentence("goes: NONE if one can't be (no PERSONS, too), or for another what");
        LotHouse x = Due.told(Due.chain(3));
        for (int persons : new int[] {0, 8, 9, 15, 1 << 16, 1 << 30, -1, -8, MAX, MIN, MIN + 1}) {
            due("goes(" + persons + ", 5, 0)", x.goes(persons, 5, 0), NONE);
            due("goes(" + persons + ", 5, 1)", x.goes(persons, 5, 1), NONE);
        }
        for (int h : NO_SHARE) {
            due("goes(1, " + h + ", 0)", x.goes(1, h, 0), NONE);
            due("goes(1, " + h + ", 1)", x.goes(1, h, 1), NONE);
        }
        for (int what : NO_WHAT_OF_TWO) {
            due("goes(1, 5, " + what + ")", x.goes(1, 5, what), NONE);
        }
        due("goes(7, 1, 1)", x.goes(7, 1, 1), 3);
        due("goes(7, 10, 0)", x.goes(7, 10, 0), 0);
        due("goes(1, 1, 0) of nobody", new LotHouse().goes(1, 1, 0), NONE);
        due("goes(0, 1, 0) of nobody", new LotHouse().goes(0, 1, 0), NONE);
        x = Due.told(Due.chain(16));
        due("goes(65535, 1, 1)", x.goes(65535, 1, 1), 16);
        due("goes(65536, 1, 1)", x.goes(65536, 1, 1), NONE);
    }

    private static void goesWithNeighbours() {
        Due.sentence("each other one who has neighbours goes");
        LotHouse x = Due.told(Due.crowd(3, 9));
        for (int h = 1; h <= 10; h++) {
            due("goes(3, " + h + ", 0)", x.goes(3, h, 0), 0);
            due("goes(3, " + h + ", 1)", x.goes(3, h, 1), 2);
        }
    }

    private static void goesNoFewer() {
        Due.sentence("those of them who had gone .., * 10, are no fewer than h (1 .. 10) * all of them");
        // k is near ten others
        StringBuilder text = new StringBuilder(Due.crowd(10, 9) + Due.person("k", "k", 9, 0, 0) + " near");
        for (char c = 'a'; c < 'k'; c++) {
            text.append(' ').append(c);
        }
        LotHouse x = Due.told(text + ";");
        for (int gone = 1; gone <= 10; gone++) {
            for (int h = 1; h <= 10; h++) {
                // behind k all others go, for it is all they have
                int all = gone >= h ? 11 : gone;
                int rounds = gone < h ? 0 : gone == 10 ? 1 : 2;
                due("goes of " + gone + " by " + h + ", 1", x.goes((1 << gone) - 1, h, 1), all);
                due("goes of " + gone + " by " + h + ", 0", x.goes((1 << gone) - 1, h, 0), rounds);
            }
        }
    }

    private static void goesAsItBegan() {
        Due.sentence("those of them who had gone as it began");
        LotHouse x = Due.told(Due.chain(3));
        due("goes(1, 5, 0)", x.goes(1, 5, 0), 2);
        due("goes(1, 5, 1)", x.goes(1, 5, 1), 3);
        due("goes(4, 5, 0)", x.goes(4, 5, 0), 2);
        due("goes(2, 10, 0)", x.goes(2, 10, 0), 1);
        due("goes(1, 6, 0)", x.goes(1, 6, 0), 0);
        due("goes(1, 6, 1)", x.goes(1, 6, 1), 1);
        due("goes(5, 10, 0)", x.goes(5, 10, 0), 1);
    }

    private static void goesAsLongAsAny() {
        Due.sentence("as long as any goes");
        LotHouse x = Due.told(Due.chain(16));
        due("goes(1, 5, 0)", x.goes(1, 5, 0), 15);
        due("goes(1, 5, 1)", x.goes(1, 5, 1), 16);
        due("goes(32768, 1, 0)", x.goes(32768, 1, 0), 15);
        due("goes(256, 5, 0)", x.goes(256, 5, 0), 8);
        due("goes(1, 6, 0)", x.goes(1, 6, 0), 0);
    }

    private static void firstLikeOnes() {
        Due.sentence("FIRST: the PERSON who alone takes most with it; of like ones the least number");
        LotHouse x = Due.told(Due.crowd(3, 9));
        due("first(1, 0)", x.first(1, 0), 0);
        due("first(1, 1)", x.first(1, 1), 1);
        x = Due.told(Due.chain(16));
        due("first(5, 0)", x.first(5, 0), 0);
        due("first(5, 1)", x.first(5, 1), 16);
        // only the outermost have but one neighbour: those beside them take them along
        due("first(6, 0)", x.first(6, 0), 1);
        due("first(6, 1)", x.first(6, 1), 2);
        due("first(10, 0)", x.first(10, 0), 1);
        x = Due.told(Due.crowd(2, 9) + Due.person("c", "k", 9, 0, 0) + ";" + Due.person("d", "k", 9, 0, 0) + " near b c;");
        due("first(10, 0), the last one", x.first(10, 0), 3);
        due("first(10, 1)", x.first(10, 1), 3);
        due("first(1, 0), one of three", x.first(1, 0), 1);
    }

    private static void firstOutside() {
        Due.sentence("first: NONE likewise");
        LotHouse x = Due.told(Due.chain(3));
        for (int h : NO_SHARE) {
            due("first(" + h + ", 0)", x.first(h, 0), NONE);
            due("first(" + h + ", 1)", x.first(h, 1), NONE);
        }
        for (int what : NO_WHAT_OF_TWO) {
            due("first(5, " + what + ")", x.first(5, what), NONE);
        }
        due("first(1, 1)", x.first(1, 1), 3);
        due("first(10, 1)", x.first(10, 1), 3);
        due("first(5, 0) of nobody", new LotHouse().first(5, 0), NONE);
        due("first(5, 1) of nobody", Due.told("kind k;").first(5, 1), NONE);
    }

    private static void owed() {
        Due.sentence("OWED of a KIND: 10 for each WRONG of its PERSONS");
        LotHouse x = Due.told("kind k;kind l;kind m;" + Due.person("a", "k", 9, 0, 0) + ";" + Due.person("b", "l", 9, 0, 0)
            + ";ways k 0;depth 10 wrong 10;");
        due("owed(0) ahead of any YEAR", x.owed(0), 0);
        for (int year = 1; year <= 30; year++) {
            x.year(false, year % 3 == 0 ? 2 : 1, 0, 0);
        }
        due("owed(0)", x.owed(0), 300);
        due("owed(1)", x.owed(1), 100);
        due("owed(2) of nobody", x.owed(2), 0);
        due("owed(3)", x.owed(3), NONE);
        due("owed(-1)", x.owed(-1), NONE);
    }

    private static void lineOfYearsWithLots() {
        Due.sentence("LINE: of all YEARS the least and the greatest ESTIMATE .. of those that had LOTS; NONE if no YEAR had LOTS");
        LotHouse x = Due.told(SILENT);
        due("line(true) ahead of any YEAR", x.line(true), NONE);
        due("line(false) ahead of any YEAR", x.line(false), NONE);
        x.year(false, 3, 0, 0);
        x.year(false, 0, 0, 3);
        due("line(true)", x.line(true), NONE);
        due("line(false)", x.line(false), NONE);
        for (int says = 2; says >= 0; says--) {
            x.seed(Due.seedFor(3, says));
            x.year(false, 0, 1, 0);
        }
        x.year(false, 3, 0, 0);
        due("line(true)", x.line(true), 900);
        due("line(false)", x.line(false), 300);
        x = Due.told(Due.crowd(2, 9) + "ways k 9 - (year - 1) * 9;");
        x.year(false, 0, 1, 0);
        due("line(true), an ESTIMATE of 0", x.line(true), 0);
        due("line(false), an ESTIMATE of 0", x.line(false), 0);
        x.image(0);
        x.year(false, 0, 1, 0);
        due("line(true)", x.line(true), 18);
        due("line(false)", x.line(false), 0);
        x.back(0);
        due("line(true), that YEAR is gone", x.line(true), 0);
    }

    private static void lineCut() {
        Due.sentence("the least and the greatest ESTIMATE, cut");
        String text = "kind k;" + Due.person("a", "k", 10, 0, 0) + ";" + Due.person("b", "k", 21, 0, 0) + ";"
            + Due.person("c", "k", 30, 0, 0) + ";ways k 0;";
        LotHouse x = Due.told(text);
        // a and b: 31 * 3 / 2
        x.seed(Due.seedFor(3, 2, 0, 0));
        x.year(false, 0, 2, 0);
        due("line(true)", x.line(true), 46);
        due("line(false)", x.line(false), 46);
        // b and c: 51 * 3 / 2
        x.seed(Due.seedFor(3, 2, 2, 1));
        x.year(false, 0, 2, 0);
        due("line(true)", x.line(true), 76);
        due("line(false)", x.line(false), 46);
    }

    private static void worthNone() {
        Due.sentence("WORTH; -1000000 if there is none such, or there was no YEAR");
        LotHouse x = Due.told(SILENT);
        due("worth(0) ahead of any YEAR", x.worth(0), NO_NUMBER);
        x.image(0);
        x.year(false, 0, 0, 0);
        due("worth(2)", x.worth(2), 300);
        for (int p : new int[] {-1, 3, 16, MAX, MIN}) {
            due("worth(" + p + ")", x.worth(p), NO_NUMBER);
        }
        x.back(0);
        due("worth(0), no YEAR once more", x.worth(0), NO_NUMBER);
        x = new LotHouse();
        x.year(false, 0, 0, 0);
        due("worth(0) of nobody", x.worth(0), NO_NUMBER);
    }

    private static void worthBelowZero() {
        Due.sentence("(it may be below 0)");
        // it pays all by match; a LOOK finds nothing, and it would write 30 less
        LotHouse x = Due.told("kind k;" + Due.person("a", "k", 100, 100, 0) + ";ways k belief * 10;"
            + "teach found 2 clean 3 heard 0 letter 1;");
        x.year(true, 0, 0, 0);
        due("worth(0)", x.worth(0), -30);
        // what is FOUND, and 20 less by what it BELIEVES then
        x = Due.told("kind k;" + Due.person("a", "k", 60, 0, 0) + ";ways k 100 - belief * 10;"
            + "teach found 2 clean 3 heard 0 letter 1;");
        x.year(false, 0, 0, 0);
        due("worth(0)", x.worth(0), 10 - 20);
    }

    private static void worthWithoutWrong() {
        Due.sentence("as if it were looked at once more, without WRONG");
        LotHouse x = Due.told("kind k;" + Due.person("a", "k", 100, 0, 0) + ";ways k belief * 10;depth 0 wrong 10;"
            + "teach found 2 clean 3 heard 0 letter 1;");
        x.year(false, 0, 0, 0);
        String before = Due.all(x);
        due("worth(0)", x.worth(0), -30);
        Due.same("worth(0)", Due.all(x), before);
    }

    private static void worthOnceMore() {
        Due.sentence("what would be FOUND (earns less what it paid that YEAR, * depth / 10), and by how much more all would write");
        String text = "kind k;" + Due.person("a", "k", 100, 0, 0) + ";" + Due.person("b", "k", 100, 0, 0)
            + " near a;ways k belief * 5;depth 5 wrong 0;teach found 2 clean 3 heard 1 letter 1;";
        LotHouse x = Due.told(text);
        x.year(false, 0, 0, 0);
        // 75 are hidden: 37 are found, a writes 10 more, b 5 more
        due("worth(0)", x.worth(0), 37 + 15);
        x = Due.told(text);
        x.year(false, 1, 0, 0);
        // 38 are hidden still
        due("worth(0)", x.worth(0), 19 + 15);
        due("worth(1)", x.worth(1), 37 + 15);
        // 1 is found, and that is above 0
        x = Due.told(Due.crowd(1, 100) + "ways k 94 + belief;teach found 3 clean 3 heard 0 letter 0;");
        x.year(false, 0, 0, 0);
        due("worth(0), 1 is hidden", x.worth(0), 1 + 1);
        x = Due.told(Due.crowd(1, 100) + "ways k 99 - 5 + belief;depth 9 wrong 0;teach found 3 clean 3 heard 0 letter 0;");
        x.year(false, 0, 0, 0);
        due("worth(0), 0.9 is cut", x.worth(0), -3);
        Due.sentence("in the next YEAR");
        x = Due.told("kind k;" + Due.person("a", "k", 999, 0, 0) + ";ways k belief * year + last;");
        x.year(false, 0, 0, 0);
        // it wrote 5; in YEAR 2 it would write 15, or 17 if it were found
        due("worth(0)", x.worth(0), 994 + 2);
    }

    private static void worthOutermost() {
        Due.sentence("by what they BELIEVED then (9, 0 at the outermost)");
        LotHouse x = Due.told(Due.crowd(1, 100) + "ways k belief * 10;teach found 9 clean 9 heard 0 letter 3;");
        x.year(false, 0, 0, 1);
        due("worth(0), it BELIEVES 8", x.worth(0), 50 + 10);
        x.year(false, 0, 0, 1);
        due("worth(0), it BELIEVES 9", x.worth(0), 20);
        x = Due.told("kind k;" + Due.person("a", "k", 100, 100, 0) + ";ways k belief * 10;"
            + "teach found 9 clean 4 heard 0 letter 3;");
        x.year(true, 1, 0, 0);
        due("worth(0), it BELIEVES 1", x.worth(0), -10);
        x.year(true, 1, 0, 0);
        due("worth(0), it BELIEVES 0", x.worth(0), 0);
    }

    private static void bestOutside() {
        Due.sentence("BEST of n LOOKS (0 .. 6, and no more than PERSONS) for y YEARS (1 .. 3); NONE if one can't be, or for another what");
        LotHouse[] some = {new LotHouse(), Due.told(Due.crowd(1, 9)), Due.told(Due.crowd(5, 9)), Due.told(Due.crowd(6, 9)),
            Due.told(Due.crowd(7, 9)), Due.told(Due.crowd(16, 9))};
        int[] most = {0, 1, 5, 6, 6, 6};
        for (int i = 0; i < some.length; i++) {
            int persons = some[i].about(1);
            for (int looks = -1; looks <= 8; looks++) {
                boolean can = looks >= 0 && looks <= most[i];
                for (int years = 0; years <= 4; years++) {
                    boolean both = can && years >= 1 && years <= 3;
                    String call = "best(" + looks + ", " + years + ", 1) of " + persons;
                    due(call, some[i].best(looks, years, 1), both ? 9 * persons * years : NONE);
                    due(call + ", 0", some[i].best(looks, years, 0), both ? 0 : NONE);
                }
            }
        }
        LotHouse x = Due.told(SILENT);
        for (int n : new int[] {MAX, MIN}) {
            due("best(" + n + ", 1, 0)", x.best(n, 1, 0), NONE);
            due("best(1, " + n + ", 0)", x.best(1, n, 0), NONE);
        }
        for (int what : NO_WHAT_OF_TWO) {
            due("best(1, 1, " + what + ")", x.best(1, 1, what), NONE);
        }
    }

    private static void bestLikeOnes() {
        Due.sentence("that by which COIN of these YEARS together is most; of like ones the least s");
        LotHouse x = Due.told(Due.crowd(16, 50) + "ways k 0;");
        for (int looks = 0; looks <= 6; looks++) {
            due("best(" + looks + ", 1, 0)", x.best(looks, 1, 0), 0);
            due("best(" + looks + ", 1, 1)", x.best(looks, 1, 1), 50 * looks);
        }
        x = Due.told(SILENT);
        x.year(false, 3, 0, 0);
        // c smells most; a LOT takes it as well
        x.seed(Due.seedFor(3, 2));
        due("best(1, 1, 0)", x.best(1, 1, 0), 0);
        due("best(1, 1, 1)", x.best(1, 1, 1), 300);
    }

    private static void bestMost() {
        Due.sentence("of s from 0 to n, with n - s by LOT");
        LotHouse x = Due.told(SILENT);
        x.year(false, 3, 0, 0);
        x.seed(Due.seedFor(3, 1));
        due("best(1, 1, 0)", x.best(1, 1, 0), 1);
        due("best(1, 1, 1)", x.best(1, 1, 1), 300);
        // two by LOT: a and b; c and by LOT a; c and b
        x.seed(Due.seedFor(3, 2, 0, 0));
        due("best(2, 1, 0)", x.best(2, 1, 0), 2);
        due("best(2, 1, 1)", x.best(2, 1, 1), 500);
        due("best(3, 1, 0)", x.best(3, 1, 0), 0);
        due("best(3, 1, 1)", x.best(3, 1, 1), 600);
        // the one of three that is in the middle: s 1
        x = Due.told("kind k;" + Due.person("a", "k", 100, 0, 1) + ";" + Due.person("b", "k", 20, 0, 2) + ";"
            + Due.person("c", "k", 90, 0, 0) + ";ways k 0;");
        x.year(false, 3, 0, 0);
        // two by LOT: c and b; a SMELT and by LOT c; a and b SMELT
        x.seed(Due.seedFor(3, 2, 2, 1));
        due("best(2, 1, 0)", x.best(2, 1, 0), 1);
        due("best(2, 1, 1)", x.best(2, 1, 1), 190);
    }

    private static void bestEachYear() {
        Due.sentence("in each YEAR");
        LotHouse x = Due.told(SILENT);
        // by LOT c, c, b; SMELT a, a, a: w goes on from YEAR to YEAR, and starts anew for each s
        x.seed(Due.seedFor(3, 3, 3, 2, 2, 1));
        due("best(1, 1, 1)", x.best(1, 1, 1), 300);
        due("best(1, 2, 1)", x.best(1, 2, 1), 600);
        due("best(1, 3, 1)", x.best(1, 3, 1), 800);
        due("best(1, 3, 0)", x.best(1, 3, 0), 0);
        // without match and LETTERS; what LOOKS teach is felt in the YEARS behind
        x = Due.told("kind k;" + Due.person("a", "k", 100, 90, 0) + ";ways k belief * 10;depth 1 wrong 0;"
            + "teach found 2 clean 1 heard 0 letter 1;");
        due("best(1, 3, 1)", x.best(1, 3, 1), 55 + 73 + 91);
        due("best(0, 3, 1)", x.best(0, 3, 1), 150);
    }

    private static void bestStays() {
        Due.sentence("All stays as it was, w too");
        LotHouse x = Due.told(SILENT + "depth 7 wrong 5;teach found 2 clean 1 heard 1 letter 1;");
        x.year(true, 1, 1, 1);
        x.year(false, 0, 1, 1);
        x.image(1);
        String before = Due.all(x);
        for (int looks = 0; looks <= 3; looks++) {
            x.best(looks, 3, 0);
            x.best(looks, 2, 1);
        }
        Due.same("best", Due.all(x), before);
        due("back(0)", x.back(0), NONE);
        due("back(1)", x.back(1), 2);
        Due.same("back behind best", Due.all(x), before);
    }

    private static void bestBeyondThirty() {
        Due.sentence("it goes on beyond 30 YEARS");
        LotHouse x = Due.told(Due.crowd(2, 500) + "ways k year;");
        for (int year = 1; year <= 30; year++) {
            x.year(false, 0, 0, 0);
            if (year >= 27) {
                due("best(0, 3, 1) behind " + year, x.best(0, 3, 1), 2 * (3 * year + 6));
            }
        }
        due("best(1, 3, 1)", x.best(1, 3, 1), 3 * 500 + 31 + 32 + 33);
        due("sum(30, 0)", x.sum(30, 0), 60);
        due("sum(28, 0)", x.sum(28, 0), 56);
        due("about(2)", x.about(2), 30);
        due("year", x.year(false, 0, 0, 0), NONE);
    }

    private static void knownOutside() {
        Due.sentence("known: NONE if there are not so many PERSONS, none at all, or n is below 0; game: NONE likewise");
        LotHouse[] some = {new LotHouse(), Due.told("kind k;"), Due.told(Due.crowd(1, 9)), Due.told(Due.crowd(16, 9))};
        int[] most = {-1, -1, 1, 16};
        for (int i = 0; i < some.length; i++) {
            for (int n : new int[] {-1, 0, 1, 2, 16, 17, MAX, MIN}) {
                boolean can = n >= 0 && n <= most[i];
                due("known(false, " + n + ")", some[i].known(false, n), can ? 9 * most[i] : NONE);
                due("known(true, " + n + ")", some[i].known(true, n), can ? 9 * most[i] : NONE);
                due("game(" + n + ")", some[i].game(n), can ? 1 : NONE);
            }
        }
    }

    private static void knownCut() {
        Due.sentence("by LOT all BELIEVE 9 * n / PERSONS (cut)");
        LotHouse x = Due.told(Due.crowd(16, 100) + "ways k belief * 10;");
        for (int n = 0; n <= 16; n++) {
            due("known(true, " + n + ")", x.known(true, n), 16 * 10 * (9 * n / 16));
        }
        due("known(true, 1)", x.known(true, 1), 0);
        due("known(true, 2)", x.known(true, 2), 160);
        due("known(true, 15)", x.known(true, 15), 1280);
    }

    private static void knownSmelt() {
        Due.sentence("by SMELT the n who would be it now BELIEVE 9, all others 0");
        LotHouse x = Due.told(SILENT.replace("ways k 0;", "ways k belief * earns / 100;"));
        int[] first = {0, 9, 27, 54};
        for (int n = 0; n <= 3; n++) {
            due("known(false, " + n + ")", x.known(false, n), first[n]);
        }
        x.year(false, 3, 0, 0);
        int[] then = {0, 27, 45, 54};
        for (int n = 0; n <= 3; n++) {
            due("known(false, " + n + ")", x.known(false, n), then[n]);
        }
        Due.sentence("ahead of the next YEAR: .. what all would write then");
        x = Due.told(Due.crowd(2, 99) + "ways k belief + year + last;");
        due("known(false, 1)", x.known(false, 1), 1 + 10);
        x.year(false, 0, 0, 0);
        due("known(true, 1)", x.known(true, 1), 12 + 12);
        due("known(false, 1)", x.known(false, 1), 8 + 17);
        x.year(false, 0, 0, 0);
        due("known(true, 1)", x.known(true, 1), 2 * (4 + 3 + 13));
        due("game(1)", x.game(1), 0);
    }

    private static void knownStays() {
        Due.sentence("KNOWN: as if");
        LotHouse x = Due.told(SILENT);
        x.year(false, 1, 1, 1);
        String before = Due.all(x);
        for (int n = 0; n <= 3; n++) {
            x.known(true, n);
            x.known(false, n);
            x.game(n);
        }
        Due.same("known and game", Due.all(x), before);
    }

    private static void gameLikeOnes() {
        Due.sentence("GAME: the one by which that is more (0 SMELT, 1 LOT; like ones: 1)");
        LotHouse x = Due.told(Due.crowd(16, 100) + "ways k belief * 10;");
        due("game(0), like ones", x.game(0), 1);
        due("game(1), 90 and 0", x.game(1), 0);
        due("game(16), like ones", x.game(16), 1);
        x = Due.told(Due.crowd(16, 10) + "ways k belief * 10;");
        due("game(8), 80 and 160", x.game(8), 1);
        due("game(1), 10 and 0", x.game(1), 0);
        x = Due.told("kind k;kind l;" + Due.person("a", "k", 99, 0, 0) + ";" + Due.person("b", "l", 99, 0, 0)
            + ";ways k belief * 3;ways l 14 - belief * 14;");
        due("known(false, 1)", x.known(false, 1), 41);
        due("known(true, 1)", x.known(true, 1), 12);
        due("game(1)", x.game(1), 0);
        x = Due.told(Due.crowd(2, 99) + "ways k belief;");
        due("game(1), 9 and 8", x.game(1), 0);
        x = Due.told(Due.crowd(2, 99) + "ways k belief - belief / 9;");
        due("game(1), 8 and 8", x.game(1), 1);
        x = Due.told(Due.crowd(2, 99) + "ways k belief - belief / 9 * 2;");
        due("game(1), 7 and 8", x.game(1), 1);
    }

    private static void smeltOutside() {
        Due.sentence("The i-th (from 0 on) of those who would be SMELT now; NONE if there is none such");
        LotHouse x = Due.told(SILENT);
        x.year(false, 3, 0, 0);
        for (int i = 0; i < 3; i++) {
            due("smelt(" + i + ")", x.smelt(i), 2 - i);
        }
        for (int i : new int[] {-1, 3, 16, MAX, MIN}) {
            due("smelt(" + i + ")", x.smelt(i), NONE);
        }
        x.year(false, 1, 0, 0);
        due("person(2, 3), smelt(0) was it", x.person(2, 3), 2);
        due("smelt(0) of nobody", new LotHouse().smelt(0), NONE);
    }

    private static void imageOutside() {
        Due.sentence("All is kept in a BOX 0 .. 2 ..: how many YEARS; NONE if there is none such");
        LotHouse x = Due.told(SILENT);
        for (int box : new int[] {-1, 3, MAX, MIN}) {
            due("image(" + box + ")", x.image(box), NONE);
            due("back(" + box + ")", x.back(box), NONE);
        }
        for (int box = 0; box < 3; box++) {
            due("back(" + box + ")", x.back(box), NONE);
            due("image(" + box + ")", x.image(box), box);
            due("back(" + box + ")", x.back(box), box);
            x.year(false, 0, 0, 0);
        }
        for (int box = 0; box < 3; box++) {
            due("back(" + box + ")", x.back(box), box);
            due("about(2)", x.about(2), box);
        }
        due("image(0) of an empty LAND", new LotHouse().image(0), 0);
    }

    /** BOX 1 without YEARS, BOX 0 with one, BOX 2 with three, as it is then. */
    private static LotHouse boxed() {
        LotHouse x = Due.told("kind k;" + Due.person("a", "k", 100, 60, 1) + ";" + Due.person("b", "k", 90, 0, 3)
            + " near a;" + Due.person("c", "k", 80, 80, 2) + ";ways k belief * 3 + last / 2 + year;depth 6 wrong 5;"
            + "teach found 2 clean 1 heard 1 letter 2;");
        due("image(1)", x.image(1), 0);
        x.year(true, 1, 0, 1);
        due("image(0)", x.image(0), 1);
        threeYears(x);
        due("image(2)", x.image(2), 3);
        return x;
    }

    private static void threeYears(LotHouse x) {
        x.year(false, 0, 1, 2);
        x.year(true, 2, 0, 1);
    }

    private static void imageKeepsAll() {
        Due.sentence("All is kept (what PERSONS BELIEVE, wrote, paid, what was FOUND, YEARS, w)");
        LotHouse x = boxed();
        String three = Due.all(x);
        x.seed(99);
        x.year(false, 3, 0, 0);
        due("back(0)", x.back(0), 1);
        String one = Due.all(x);
        due("back(2)", x.back(2), 3);
        Due.same("back(2)", Due.all(x), three);
        due("back(0)", x.back(0), 1);
        // what comes then is as it was, and is not in the BOX
        threeYears(x);
        Due.same("the same YEARS once more", Due.all(x), three);
        due("back(0)", x.back(0), 1);
        Due.same("back(0) once more", Due.all(x), one);
        // other YEARS in the place of those in BOX 2, which come back whole
        for (int other = 0; other < 3; other++) {
            x = boxed();
            due("back(1)", x.back(1), 0);
            x.seed(other);
            x.year(other == 0, other == 1 ? 2 : 0, 0, other == 2 ? 3 : 1);
            x.year(false, 0, other, 1);
            x.year(other == 1, 0, 0, 3 - other);
            due("back(2)", x.back(2), 3);
            Due.same("back(2) behind other YEARS", Due.all(x), three);
        }
    }

    private static void backForgets() {
        Due.sentence("All is as it was kept: YEARS behind it are gone");
        LotHouse x = Due.told(FOUR + "ways k belief * 10;depth 10 wrong 10;");
        x.image(0);
        x.year(true, 1, 1, 1);
        x.year(true, 1, 1, 2);
        x.back(0);
        x.seed(1);
        x.year(false, 0, 0, 0);
        x.year(false, 0, 0, 2);
        x.year(false, 0, 0, 0);
        due("estimate(1, 0)", x.estimate(1, 0), NONE);
        due("line(true)", x.line(true), NONE);
        due("did(1, 0)", x.did(1, 0), NO_NUMBER);
        due("did(2, 0)", x.did(2, 0), 10);
        due("luck(2, 1)", x.luck(2, 1), 6);
        int[] sums = {200, 200, 0, 0, 0, 0};
        for (int what = 0; what < 6; what++) {
            due("sum(1, " + what + ")", x.sum(1, what), sums[what]);
        }
    }

    private static void imageFull() {
        Due.sentence("YEARS (30 of them)");
        LotHouse x = Due.told(Due.crowd(1, 99) + "ways k year;");
        x.image(1);
        for (int year = 1; year <= 30; year++) {
            x.year(false, 0, 0, 0);
        }
        due("image(0)", x.image(0), 30);
        due("back(1)", x.back(1), 0);
        due("year", x.year(false, 1, 0, 0), 99);
        due("back(0)", x.back(0), 30);
        for (int year = 1; year <= 30; year++) {
            due("sum(" + year + ", 0)", x.sum(year, 0), year);
        }
        due("year", x.year(false, 0, 0, 0), NONE);
    }

    private static void backOfNothing() {
        Due.sentence("back: NONE, doing nothing, if nothing was");
        LotHouse x = Due.told(SILENT);
        x.year(false, 1, 1, 1);
        x.image(1);
        x.seed(5);
        x.year(false, 0, 2, 1);
        String before = Due.all(x);
        for (int box : new int[] {0, 2, 3, -1, MAX, MIN}) {
            due("back(" + box + ")", x.back(box), NONE);
        }
        Due.same("back of nothing", Due.all(x), before);
    }

    private static void backAsItWas() {
        Due.sentence("All is as it was kept");
        LotHouse x = Due.told(SILENT);
        x.image(0);
        x.year(false, 1, 0, 0);
        due("image(0), over what was there", x.image(0), 1);
        x.year(false, 1, 0, 0);
        due("back(0)", x.back(0), 1);
        due("back(0) once more", x.back(0), 1);
        due("sum(2, 0)", x.sum(2, 0), NONE);
        due("kind(0, 1)", x.kind(0, 1), 1);
        Texts.feed(x, "kind");
        x.land();
        due("back(0)", x.back(0), 1);
        due("about(4), the TAPE is none of it", x.about(4), 4);
        due("fault(1), nor is the FAULT", x.fault(1), 4);
    }

    private static void seeds() {
        Due.sentence("w is so much: what it was");
        LotHouse x = new LotHouse();
        int before = 1;
        for (int w : new int[] {0, -1, MAX, MIN, 1, 65536}) {
            due("seed(" + w + ")", x.seed(w), before);
            due("about(3)", x.about(3), w);
            before = w;
        }
        due("land()", Texts.land(x, SILENT), 3);
        due("about(3), w stays", x.about(3), 65536);
        x.year(false, 0, 1, 0);
        due("seed(3)", x.seed(3), Due.next(65536));
    }

    private static void abouts() {
        Due.sentence("about: NONE for another what (w may be that, too)");
        LotHouse x = Due.told(SILENT + "depth 3 wrong 4;");
        x.year(false, 0, 0, 0);
        Texts.feed(x, "kind k;");
        x.seed(-1);
        int[] about = {1, 3, 1, -1, 7, 3, 4, 1};
        for (int what = 0; what < about.length; what++) {
            due("about(" + what + ")", x.about(what), about[what]);
        }
        for (int what : new int[] {-1, 8, MAX, MIN}) {
            due("about(" + what + ")", x.about(what), NONE);
        }
    }
}
