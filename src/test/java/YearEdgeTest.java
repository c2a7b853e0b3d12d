/** The edges that ==== 2. and promises 6 to 9 name: one method for each sentence. */
public final class YearEdgeTest {
    private static final int NONE = Due.NONE;
    /** a earns 100, b 200, c 300; nobody writes anything. */
    private static final String SILENT = "kind k;" + Due.person("a", "k", 100, 0, 1) + ";"
        + Due.person("b", "k", 200, 0, 2) + ";" + Due.person("c", "k", 300, 0, 4) + ";ways k 0;";
    /** a hides all, b hides nothing; they are neighbours. */
    private static final String PAIR = "kind k;kind l;" + Due.person("a", "k", 10, 0, 0) + ";"
        + Due.person("b", "l", 10, 0, 0) + " near a;ways k 0;";
    /** The same two, b told first. */
    private static final String PAIR_TURNED = "kind k;kind l;" + Due.person("b", "l", 10, 0, 0) + ";"
        + Due.person("a", "k", 10, 0, 0) + " near b;ways k 0;";

    public static void main(String[] args) {
        believesAtFirst();
        wroteAtFirst();
        zeroAtLeast();
        earnsAtMost();
        wrapping();
        cut();
        yearOfWays();
        matched();
        noMatch();
        smeltNone();
        smeltLikeOnes();
        scoreWithoutLooks();
        scoreCut();
        scoreFull();
        scoreYearsAhead();
        lotAll();
        lotInOrder();
        foundCut();
        depthOutermost();
        wrongBelow();
        wrongZeroDrawsNothing();
        wrongIsNotFound();
        signsBehindAllLooks();
        paidMoreOrClean();
        heardWithFoundAlone();
        beliefOutermost();
        oneLookBehindTheOther();
        lettersToOthers();
        lettersEachOnce();
        lettersDrawn();
        drawWraps();
        drawShifts();
        coinAndGap();
        thirtyYears();
        together();
        personOutside();
        personPaid();
        scoreOutside();
        yearRefused();
        sumOutside();
        Due.finish();
    }

    private static void due(String call, int got, int want) {
        Due.due(call, got, want);
    }

    private static int written(String way) {
        return Due.told("kind k;" + Due.person("a", "k", 100, 40, 0) + ";ways k " + way + ";").person(0, 5);
    }

    private static void believesAtFirst() {
        Due.sentence("Each PERSON BELIEVES 0 .. 9 (5 at first)");
        LotHouse x = Due.told(Due.crowd(16, 9) + "ways k belief;");
        for (int p = 0; p < 16; p++) {
            due("person(" + p + ", 0)", x.person(p, 0), 5);
            due("person(" + p + ", 5)", x.person(p, 5), 5);
        }
        x.year(false, 0, 0, 16);
        Texts.land(x, Due.crowd(16, 9));
        due("person(15, 0) of the next LAND", x.person(15, 0), 5);
    }

    private static void wroteAtFirst() {
        Due.sentence("WROTE last (0 at first)");
        LotHouse x = Due.told("kind k;" + Due.person("a", "k", 100, 40, 0) + ";ways k last + 3;");
        due("person(0, 1)", x.person(0, 1), 0);
        due("year", x.year(true, 1, 0, 0), 100);
        due("person(0, 1)", x.person(0, 1), 3);
        // what it wrote, not what it paid
        due("person(0, 5)", x.person(0, 5), 6);
        due("year", x.year(false, 0, 0, 0), 6);
        // last is what was made of it: earns at most
        x = Due.told("kind k;" + Due.person("a", "k", 100, 40, 0) + ";ways k 110 - last;");
        due("year", x.year(false, 0, 0, 0), 100);
        due("year", x.year(false, 0, 0, 0), 10);
        due("year", x.year(false, 0, 0, 0), 100);
    }

    private static void zeroAtLeast() {
        Due.sentence("made 0 at least");
        due("0", written("0"), 0);
        due("0 - 1", written("0 - 1"), 0);
        due("0 - 9999", written("0 - 9999 * 9999"), 0);
        due("1", written("1"), 1);
    }

    private static void earnsAtMost() {
        Due.sentence("earns at most");
        due("99", written("99"), 99);
        due("100", written("100"), 100);
        due("101", written("101"), 100);
        due("earns + paper", written("earns + paper"), 100);
        due("paper", written("paper"), 40);
        due("of one who earns 0", Due.told(Due.crowd(1, 0) + "ways k 5;").person(0, 5), 0);
    }

    private static void wrapping() {
        Due.sentence("ints, wrapping");
        // 9999 * 9999 * 21 is 2099580021, the greatest int 2147483647
        due("below the greatest", written("9999*9999*21"), 100);
        due("* beyond the greatest", written("9999*9999*22"), 0);
        due("+ beyond the greatest", written("9999*9999*21 + 9999*9999"), 0);
        due("- beyond the least", written("0 - 9999*9999*21 - 9999*9999"), 100);
        // 2199560022 - 2^32 is -2095407274
        due("what is left of it", written("9999*9999*22 / 1000 + 2095*1000 + 500"), 93);
        // 2^16 * 2^16 is 0, 2^16 * 2^15 the least int, less 1 the greatest
        due("2^32", written("256*256*256*256 + 7"), 7);
        due("2^31", written("256*256*256*128"), 0);
        due("2^31 less 1", written("256*256*256*128 - 1"), 100);
        due("the least int / 1", written("256*256*256*128 / 1 + 5"), 0);
        due("the least int / 9999", written("256*256*256*128 / 9999 + 2148*100"), 31);
    }

    private static void cut() {
        Due.sentence("/ is cut");
        due("7 / 2", written("7 / 2"), 3);
        due("(0 - 7) / 2 + 4", written("(0 - 7) / 2 + 4"), 1);
        due("1 / 2", written("1 / 2"), 0);
        due("(0 - 1) / 2 + 1", written("(0 - 1) / 2 + 1"), 1);
        due("99 / 10 / 3", written("99 / 10 / 3"), 3);
        due("10 / 3 * 3", written("10 / 3 * 3"), 9);
        due("10 * 3 / 4", written("10 * 3 / 4"), 7);
        due("20 - 9 / 2 - 1", written("20 - 9 / 2 - 1"), 15);
    }

    private static void yearOfWays() {
        Due.sentence("year: the YEAR, 1 the first");
        LotHouse x = Due.told(Due.crowd(1, 99) + "ways k year;");
        for (int year = 1; year <= 30; year++) {
            due("person(0, 5)", x.person(0, 5), year);
            due("year", x.year(false, 0, 0, 0), year);
            due("person(0, 1)", x.person(0, 1), year);
        }
        due("person(0, 5) behind 30 YEARS", x.person(0, 5), 31);
    }

    private static void matched() {
        Due.sentence("With match: who wrote less than paper pays paper (MATCHED)");
        LotHouse x = Due.told("kind k;" + Due.person("a", "k", 100, 51, 0) + ";" + Due.person("b", "k", 100, 50, 0)
            + ";" + Due.person("c", "k", 100, 49, 0) + ";" + Due.person("d", "k", 100, 100, 0) + ";ways k 50;");
        due("year", x.year(true, 0, 0, 0), 251);
        due("sum(1, 4)", x.sum(1, 4), 51);
        int[] paid = {51, 50, 50, 100};
        for (int p = 0; p < 4; p++) {
            due("person(" + p + ", 1)", x.person(p, 1), 50);
            due("person(" + p + ", 2)", x.person(p, 2), paid[p]);
        }
        // nothing is left to be FOUND on d
        x.year(true, 4, 0, 0);
        due("sum(2, 2)", x.sum(2, 2), 49 + 50 + 50);
        due("person(3, 0)", x.person(3, 0), 4);
    }

    private static void noMatch() {
        Due.sentence("A YEAR with match (or not)");
        LotHouse x = Due.told("kind k;" + Due.person("a", "k", 100, 60, 0) + ";ways k 50;");
        due("year", x.year(false, 0, 0, 0), 50);
        due("sum(1, 4)", x.sum(1, 4), 0);
        due("person(0, 2)", x.person(0, 2), 50);
        due("year", x.year(true, 0, 0, 0), 60);
        due("year", x.year(false, 1, 0, 0), 100);
        due("sum(3, 2)", x.sum(3, 2), 50);
    }

    private static void smeltNone() {
        Due.sentence("SMELT: the s of greatest SCORE");
        LotHouse x = Due.told(SILENT);
        due("year of none", x.year(false, 0, 0, 0), 0);
        due("year of all", x.year(false, 3, 0, 0), 600);
        // now c smells most
        due("year of one", x.year(false, 1, 0, 0), 300);
        due("year of two", x.year(false, 2, 0, 0), 500);
        due("person(0, 3)", x.person(0, 3), 1);
        due("person(2, 3)", x.person(2, 3), 3);
    }

    private static void smeltLikeOnes() {
        Due.sentence("of like ones the least number");
        LotHouse x = Due.told(Due.crowd(16, 9));
        for (int i = 0; i < 16; i++) {
            due("smelt(" + i + ")", x.smelt(i), i);
        }
        x.year(false, 5, 0, 0);
        for (int p = 0; p < 16; p++) {
            due("person(" + p + ", 3)", x.person(p, 3), p < 5 ? 1 : 0);
        }
        // b and d alike above, a and c alike below
        x = Due.told("kind k;" + Due.person("a", "k", 9, 0, 2) + ";" + Due.person("b", "k", 9, 0, 1) + ";"
            + Due.person("c", "k", 9, 0, 2) + ";" + Due.person("d", "k", 9, 0, 1) + ";ways k 0;");
        x.seed(Due.seedFor(4, 1));
        x.year(false, 0, 1, 0);
        int[] order = {1, 3, 0, 2};
        for (int i = 0; i < 4; i++) {
            due("smelt(" + i + ")", x.smelt(i), order[i]);
        }
    }

    private static void scoreWithoutLooks() {
        Due.sentence("SCORE: .. (cut; 0 if there were none), together");
        LotHouse x = Due.told("kind k;" + Due.person("a", "k", 9, 0, 0) + ";" + Due.person("b", "k", 9, 0, 15)
            + ";ways k 0;");
        due("score(1)", x.score(1), 0);
        x.year(false, 0, 0, 2);
        due("score(1)", x.score(1), 0);
        // a has no sign: what is FOUND on it counts for none
        x.year(false, 1, 0, 0);
        due("score(0)", x.score(0), 0);
        due("score(1)", x.score(1), 0);
        x.year(false, 2, 0, 0);
        due("score(0)", x.score(0), 0);
        due("score(1)", x.score(1), 36000);
    }

    private static void scoreCut() {
        Due.sentence("* 1000 / how many such LOOKS (cut ..)");
        // sign 1: 2 in 3 LOOKS; sign 2: 2 in 3 LOOKS: each is cut, then they come together
        LotHouse x = Due.told("kind k;kind l;" + Due.person("a", "k", 2, 0, 3) + ";" + Due.person("b", "l", 2, 0, 3)
            + ";" + Due.person("c", "l", 2, 0, 3) + ";ways k 0;");
        x.year(false, 3, 0, 0);
        due("score(0)", x.score(0), 1332);
        due("score(2)", x.score(2), 1332);
    }

    private static void scoreFull() {
        Due.sentence("SCORE: for each sign .. what was FOUND .., all YEARS ahead, * 1000 (the most there can be)");
        StringBuilder text = new StringBuilder("kind k;");
        for (int p = 0; p < 16; p++) {
            text.append(Due.person(Character.toString('a' + p), "k", 999, 0, 15)).append(";");
        }
        LotHouse x = Due.told(text + "ways k 0;");
        for (int year = 1; year <= 30; year++) {
            due("year", x.year(false, 16, 0, 0), 16 * 999);
            due("score(0)", x.score(0), 3996000);
        }
        due("score(15)", x.score(15), 3996000);
        due("kind(0, 1)", x.kind(0, 1), 480);
        due("kind(0, 2)", x.kind(0, 2), 479520);
        due("best(6, 3, 1)", x.best(6, 3, 1), 18 * 999);
    }

    private static void scoreYearsAhead() {
        Due.sentence("SCORE: .. LOOKS at those who had it, all YEARS ahead");
        LotHouse x = Due.told("kind k;" + Due.person("a", "k", 90, 0, 1) + ";ways k (year - 1) * 30;");
        int[] scores = {90000, 75000, 60000, 45000, 36000};
        for (int score : scores) {
            x.year(false, 1, 0, 0);
            due("score(0)", x.score(0), score);
        }
    }

    private static void lotAll() {
        Due.sentence("LOT: l times of those left over");
        LotHouse x = Due.told(SILENT);
        due("year", x.year(false, 0, 3, 0), 600);
        for (int p = 0; p < 3; p++) {
            due("person(" + p + ", 3)", x.person(p, 3), 1);
        }
        due("sum(1, 2)", x.sum(1, 2), 0);
        due("sum(1, 3)", x.sum(1, 3), 600);
        // the last one is drawn, too
        due("w", x.about(3), Due.next(1, 3));
        due("year", x.year(false, 2, 1, 0), 600);
        due("sum(2, 2), c and b", x.sum(2, 2), 500);
        due("sum(2, 3), a is left over", x.sum(2, 3), 100);
        due("w", x.about(3), Due.next(1, 4));
    }

    private static void lotInOrder() {
        Due.sentence("those left over, in order, that which the DRAW of how many they are says");
        for (int says = 0; says < 3; says++) {
            LotHouse x = Due.told(SILENT);
            x.seed(Due.seedFor(3, says));
            due("year", x.year(false, 0, 1, 0), 100 * (says + 1));
        }
        for (int says = 0; says < 2; says++) {
            LotHouse x = Due.told(SILENT);
            // b is taken first, then one of a and c
            x.seed(Due.seedFor(3, 2, 1, says));
            due("year", x.year(false, 0, 2, 0), 200 + (says == 0 ? 100 : 300));
            x = Due.told(SILENT);
            x.seed(Due.seedFor(2, says));
            x.year(false, 1, 1, 0);
            due("sum(1, 3), a was SMELT", x.sum(1, 3), says == 0 ? 200 : 300);
        }
    }

    private static void foundCut() {
        Due.sentence("FOUND is (earns less what was paid) * depth / 10 (cut)");
        LotHouse x = Due.told("kind k;" + Due.person("a", "k", 9, 0, 0) + ";" + Due.person("b", "k", 10, 0, 0) + ";"
            + Due.person("c", "k", 19, 0, 0) + ";ways k 0;depth 1 wrong 0;");
        due("year", x.year(false, 3, 0, 0), 2);
        int[] paid = {0, 1, 1};
        int[] believes = {4, 6, 6};
        for (int p = 0; p < 3; p++) {
            due("person(" + p + ", 2)", x.person(p, 2), paid[p]);
            due("person(" + p + ", 0)", x.person(p, 0), believes[p]);
        }
        x = Due.told("kind k;" + Due.person("a", "k", 999, 500, 0) + ";ways k 0;depth 9 wrong 0;");
        due("year", x.year(true, 1, 0, 0), 500 + 449);
    }

    private static void depthOutermost() {
        Due.sentence("depth 0 .. 10");
        for (int depth = 0; depth <= 10; depth++) {
            LotHouse x = Due.told(SILENT + "depth " + depth + " wrong 0;");
            due("year with depth " + depth, x.year(false, 2, 1, 0), 60 * depth);
            due("person(0, 0)", x.person(0, 0), depth == 0 ? 4 : 6);
        }
    }

    private static void wrongBelow() {
        Due.sentence("if a DRAW of 10 is below wrong");
        for (int wrong = 1; wrong <= 10; wrong++) {
            for (int says = 0; says < 10; says++) {
                LotHouse x = Due.told(Due.crowd(1, 9) + "depth 10 wrong " + wrong + ";");
                x.seed(Due.seedFor(10, says));
                x.year(false, 1, 0, 0);
                due("sum(1, 5) of " + says + " and wrong " + wrong, x.sum(1, 5), says < wrong ? 1 : 0);
                due("person(0, 4)", x.person(0, 4), says < wrong ? 1 : 0);
            }
        }
    }

    private static void wrongZeroDrawsNothing() {
        Due.sentence("nothing is drawn if wrong is 0");
        LotHouse x = Due.told(SILENT + "depth 10 wrong 0;");
        x.year(false, 3, 0, 0);
        due("w", x.about(3), 1);
        x.year(false, 1, 2, 0);
        due("w, two LOTS", x.about(3), Due.next(1, 2));
        x = Due.told(SILENT + "depth 10 wrong 10;");
        x.year(false, 3, 0, 0);
        due("w, one DRAW for each LOOK", x.about(3), Due.next(1, 3));
        // LOTS are drawn ahead of all LOOKS: a DRAW of 3, of 2, then of 10 for each
        x = Due.told(SILENT + "depth 10 wrong 5;");
        x.seed(Due.seedFor(3, 2, 10, 10, 1, 1, 4, 5));
        x.year(false, 0, 2, 0);
        due("person(1, 4)", x.person(1, 4), 1);
        due("person(2, 4)", x.person(2, 4), 0);
        due("person(2, 3)", x.person(2, 3), 1);
    }

    private static void wrongIsNotFound() {
        Due.sentence("10 more are taken that were not there (WRONG ..); it counts for the signs (without WRONG)");
        LotHouse x = Due.told("kind k;" + Due.person("a", "k", 9, 0, 1) + ";depth 10 wrong 10;");
        due("year", x.year(false, 0, 1, 0), 9);
        due("sum(1, 1)", x.sum(1, 1), 0);
        due("sum(1, 3)", x.sum(1, 3), 0);
        due("sum(1, 5)", x.sum(1, 5), 1);
        due("person(0, 2)", x.person(0, 2), 9);
        due("score(0)", x.score(0), 0);
        due("kind(0, 2)", x.kind(0, 2), 0);
        due("kind(0, 3)", x.kind(0, 3), 0);
        due("estimate(1, 0)", x.estimate(1, 0), 0);
        due("owed(0)", x.owed(0), 10);
    }

    private static void signsBehindAllLooks() {
        Due.sentence("It counts for the signs .., behind all LOOKS");
        LotHouse x = Due.told("kind k;" + Due.person("a", "k", 9, 0, 1) + ";" + Due.person("b", "k", 9, 0, 0) + ";"
            + Due.person("c", "k", 9, 0, 1) + ";ways k 0;");
        x.year(false, 2, 0, 0);
        due("person(1, 3)", x.person(1, 3), 1);
        due("person(2, 3)", x.person(2, 3), 0);
        x.year(false, 2, 0, 0);
        due("person(1, 3)", x.person(1, 3), 1);
        due("person(2, 3)", x.person(2, 3), 1);
    }

    private static void paidMoreOrClean() {
        Due.sentence("Who paid more by it (FOUND above 0, or WRONG) BELIEVES found more, else clean less");
        LotHouse x = Due.told(PAIR + "teach found 2 clean 3 heard 0 letter 0;");
        x.year(false, 2, 0, 0);
        due("person(0, 0), FOUND", x.person(0, 0), 7);
        due("person(1, 0), clean", x.person(1, 0), 2);
        x = Due.told(PAIR + "depth 10 wrong 10;teach found 2 clean 3 heard 0 letter 0;");
        x.year(false, 2, 0, 0);
        due("person(0, 0), FOUND and WRONG", x.person(0, 0), 7);
        due("person(1, 0), WRONG", x.person(1, 0), 7);
        x = Due.told(PAIR + "depth 0 wrong 0;teach found 2 clean 3 heard 0 letter 0;");
        x.year(false, 2, 0, 0);
        due("person(0, 0), nothing FOUND", x.person(0, 0), 2);
        // what match made it pay is no LOOK's doing
        x = Due.told("kind k;" + Due.person("a", "k", 9, 9, 0) + ";ways k 0;teach found 2 clean 3 heard 0 letter 0;");
        x.year(true, 1, 0, 0);
        due("person(0, 0), MATCHED", x.person(0, 0), 2);
    }

    private static void heardWithFoundAlone() {
        Due.sentence("with FOUND above 0 each neighbour heard more");
        LotHouse x = Due.told(PAIR + "teach found 1 clean 1 heard 2 letter 0;");
        x.year(false, 1, 0, 0);
        due("person(1, 0)", x.person(1, 0), 7);
        x = Due.told(PAIR + "depth 0 wrong 10;teach found 1 clean 1 heard 2 letter 0;");
        x.year(false, 1, 0, 0);
        due("person(0, 0), WRONG alone", x.person(0, 0), 6);
        due("person(1, 0), WRONG alone", x.person(1, 0), 5);
        // neighbours alone, not theirs
        x = Due.told(Due.chain(4) + "ways k 0;teach found 1 clean 1 heard 2 letter 0;");
        x.seed(Due.seedFor(4, 1));
        x.year(false, 0, 1, 0);
        int[] believes = {7, 6, 7, 5};
        for (int p = 0; p < 4; p++) {
            due("person(" + p + ", 0)", x.person(p, 0), believes[p]);
        }
    }

    private static void beliefOutermost() {
        Due.sentence("(9, 0 at the outermost ..)");
        LotHouse x = Due.told(PAIR + "teach found 2 clean 2 heard 3 letter 2;");
        int[] found = {7, 9, 9, 9};
        int[] heard = {8, 9, 9, 9};
        for (int i = 0; i < 4; i++) {
            x.year(false, 1, 0, 0);
            due("person(0, 0)", x.person(0, 0), found[i]);
            due("person(1, 0)", x.person(1, 0), heard[i]);
        }
        x = Due.told(Due.crowd(1, 9) + "teach found 2 clean 2 heard 3 letter 2;");
        for (int believes : new int[] {3, 1, 0, 0}) {
            x.year(false, 1, 0, 0);
            due("person(0, 0)", x.person(0, 0), believes);
        }
        for (int believes : new int[] {2, 4, 6, 8, 9, 9}) {
            x.year(false, 0, 0, 1);
            due("person(0, 0)", x.person(0, 0), believes);
        }
        x = Due.told(PAIR + "teach found 9 clean 9 heard 9 letter 9;");
        x.year(false, 0, 0, 2);
        due("person(0, 0)", x.person(0, 0), 9);
        x = Due.told(Due.crowd(1, 9) + "teach found 9 clean 9 heard 9 letter 9;");
        x.year(false, 1, 0, 0);
        due("person(0, 0)", x.person(0, 0), 0);
    }

    private static void oneLookBehindTheOther() {
        Due.sentence("one LOOK behind the other");
        String teach = "teach found 1 clean 2 heard 3 letter 9;";
        LotHouse x = Due.told(PAIR + teach);
        x.year(false, 0, 0, 2);
        x.year(false, 2, 0, 0);
        // b hears of a first (9 stays 9), then it is clean
        due("person(1, 0)", x.person(1, 0), 7);
        x = Due.told(PAIR_TURNED + teach);
        x.year(false, 0, 0, 2);
        x.year(false, 2, 0, 0);
        // b is clean first (7), then it hears of a
        due("person(0, 0)", x.person(0, 0), 9);
        // by LOT in the order in which they are drawn: b, then a; SMELT ones ahead of those
        x = Due.told(PAIR + teach);
        x.year(false, 0, 0, 2);
        x.seed(Due.seedFor(2, 1, 1, 0));
        x.year(false, 0, 2, 0);
        due("person(1, 0), drawn first", x.person(1, 0), 9);
        x = Due.told(PAIR + teach);
        x.year(false, 0, 0, 2);
        x.year(false, 1, 1, 0);
        due("person(1, 0), a was SMELT", x.person(1, 0), 7);
    }

    private static void lettersToOthers() {
        Due.sentence("LETTERS: t times of those who were not looked at");
        LotHouse x = Due.told(SILENT + "teach found 0 clean 0 heard 0 letter 1;");
        x.seed(Due.seedFor(2, 1));
        x.year(false, 1, 1, 1);
        // a SMELT, c by LOT
        int[] believes = {5, 6, 5};
        for (int p = 0; p < 3; p++) {
            due("person(" + p + ", 0)", x.person(p, 0), believes[p]);
        }
        due("no LETTER, all are looked at", x.year(false, 1, 2, 0), 600);
        due("a LETTER, all are looked at", x.year(false, 1, 2, 1), NONE);
    }

    private static void lettersEachOnce() {
        Due.sentence("LETTERS: .. likewise drawn: letter more");
        LotHouse x = Due.told(Due.crowd(16, 9) + "teach found 0 clean 0 heard 0 letter 1;");
        x.year(false, 0, 0, 16);
        for (int p = 0; p < 16; p++) {
            due("person(" + p + ", 0)", x.person(p, 0), 6);
        }
        due("w", x.about(3), Due.next(1, 16));
        for (int says = 0; says < 3; says++) {
            x = Due.told(SILENT + "teach found 0 clean 0 heard 0 letter 4;");
            x.seed(Due.seedFor(3, says));
            x.year(false, 0, 0, 1);
            for (int p = 0; p < 3; p++) {
                due("person(" + p + ", 0)", x.person(p, 0), p == says ? 9 : 5);
            }
        }
    }

    private static void lettersDrawn() {
        Due.sentence("(6) LETTERS, behind all LOOKS");
        LotHouse x = Due.told(SILENT + "depth 10 wrong 1;teach found 0 clean 0 heard 0 letter 0;");
        // a LOT of 3, whether it is WRONG, a LETTER of 2
        x.year(false, 0, 1, 1);
        due("w", x.about(3), Due.next(1, 3));
        x = Due.told(SILENT + "depth 10 wrong 5;teach found 0 clean 0 heard 0 letter 1;");
        x.seed(Due.seedFor(3, 10, 2, 0, 4, 1));
        x.year(false, 0, 1, 1);
        due("person(0, 4)", x.person(0, 4), 1);
        due("person(1, 0)", x.person(1, 0), 5);
        due("person(2, 0)", x.person(2, 0), 6);
    }

    private static void drawWraps() {
        Due.sentence("DRAW of n: w becomes w * 1103515245 + 12345 (wrapping; 1 at first)");
        LotHouse x = Due.told(Due.crowd(1, 9));
        due("about(3)", x.about(3), 1);
        for (int seed : new int[] {Integer.MAX_VALUE, Integer.MIN_VALUE, -1, 0}) {
            x.seed(seed);
            x.year(false, 0, 1, 0);
            due("w behind " + seed, x.about(3), (int) (seed * 1103515245L + 12345L));
        }
        x.seed(1);
        x.year(false, 0, 1, 0);
        due("w behind 1", x.about(3), 1103527590);
    }

    private static void drawShifts() {
        Due.sentence("(w >>> 16) modulo n");
        // a w below 0 behind the DRAW, whose upper half is 65535, and would be -1 if the sign were kept
        int before = 0;
        while (Due.next(before) >>> 16 != 65535) {
            before--;
        }
        StringBuilder text = new StringBuilder("kind k;");
        for (int p = 0; p < 7; p++) {
            text.append(Due.person(Character.toString('a' + p), "k", 10 + p, 0, 0)).append(";");
        }
        LotHouse x = Due.told(text + "ways k 0;");
        x.seed(before);
        due("year, 65535 modulo 7 is 1", x.year(false, 0, 1, 0), 11);
        x = Due.told(Due.crowd(1, 9));
        x.seed(before);
        due("a DRAW of 1", x.year(false, 0, 1, 0), 9);
        due("w", x.about(3), Due.next(before));
    }

    private static void coinAndGap() {
        Due.sentence("COIN of a YEAR: all that was written, MATCHED, FOUND. GAP: what all earn less COIN");
        LotHouse x = Due.told("kind k;" + Due.person("a", "k", 100, 30, 0) + ";" + Due.person("b", "k", 100, 0, 0) + ";"
            + Due.person("c", "k", 100, 0, 0) + ";ways k 10;depth 5 wrong 10;");
        due("year", x.year(true, 1, 1, 0), 30 + 20 + 35 + 45);
        int[] sums = {130, 170, 35, 45, 20, 2};
        for (int what = 0; what < 6; what++) {
            due("sum(1, " + what + ")", x.sum(1, what), sums[what]);
        }
        x = Due.told(Due.crowd(16, 999));
        due("year of most", x.year(false, 0, 0, 0), 15984);
        due("sum(1, 1)", x.sum(1, 1), 0);
        x = Due.told(Due.crowd(16, 999) + "ways k 0;");
        due("year of least", x.year(false, 0, 0, 0), 0);
        due("sum(1, 1)", x.sum(1, 1), 15984);
    }

    private static LotHouse thirtyYearsOld() {
        LotHouse x = Due.told(Due.crowd(2, 99) + "ways k year;");
        for (int year = 1; year <= 30; year++) {
            due("year " + year, x.year(false, 0, 1, 1), 2 * year + 99 - year);
        }
        return x;
    }

    private static void thirtyYears() {
        Due.sentence("30 YEARS at most; NONE, doing nothing, if .. there were 30");
        LotHouse x = thirtyYearsOld();
        due("a 31st", x.year(false, 0, 1, 1), NONE);
        due("a 31st without anything", x.year(true, 0, 0, 0), NONE);
        Due.same("a 31st", Due.all(x), Due.all(thirtyYearsOld()));
        due("sum(30, 0)", x.sum(30, 0), 129);
        due("sum(31, 0)", x.sum(31, 0), NONE);
        due("about(2)", x.about(2), 30);
        due("land()", Texts.land(x, Due.crowd(2, 99)), 2);
        due("the next LAND's first", x.year(false, 0, 0, 0), 198);
    }

    private static void together() {
        Due.sentence("s and l together, and t with them, no more than there are PERSONS");
        for (int s = 0; s <= 4; s++) {
            for (int l = 0; l <= 4; l++) {
                for (int t = 0; t <= 4; t++) {
                    LotHouse x = Due.told(SILENT);
                    boolean can = s + l + t <= 3;
                    x.year(false, s, l, t);
                    due("about(2) behind year(false, " + s + ", " + l + ", " + t + ")", x.about(2), can ? 1 : 0);
                    due("kind(0, 1)", x.kind(0, 1), can ? s + l : 0);
                }
            }
        }
    }

    private static void personOutside() {
        Due.sentence("person: NONE if there is none such, or for another what");
        LotHouse x = Due.told(SILENT);
        x.year(false, 1, 0, 0);
        for (int p : new int[] {-1, 3, 16, Integer.MAX_VALUE, Integer.MIN_VALUE}) {
            for (int what = -1; what <= 6; what++) {
                due("person(" + p + ", " + what + ")", x.person(p, what), NONE);
            }
        }
        for (int what : new int[] {-1, 6, Integer.MAX_VALUE, Integer.MIN_VALUE}) {
            due("person(0, " + what + ")", x.person(0, what), NONE);
        }
        int[] a = {6, 0, 100, 1, 0, 0};
        for (int what = 0; what < 6; what++) {
            due("person(0, " + what + ")", x.person(0, what), a[what]);
        }
    }

    private static void personPaid() {
        Due.sentence("1: WROTE in the latest YEAR, 2: paid in it (all but WRONG), 3: LOOKS in all, 4: WRONG ones of these");
        LotHouse x = Due.told("kind k;" + Due.person("a", "k", 100, 30, 0) + ";ways k year * 5;depth 5 wrong 10;");
        int[][] rows = {{5, 5 + 25 + 35, 1, 1}, {10, 10, 1, 1}, {15, 15 + 42, 2, 2}, {20, 30, 2, 2}};
        boolean[] match = {true, false, false, true};
        int[] looks = {1, 0, 1, 0};
        for (int i = 0; i < 4; i++) {
            x.year(match[i], looks[i], 0, 0);
            for (int what = 1; what <= 4; what++) {
                due("person(0, " + what + ") in YEAR " + (i + 1), x.person(0, what), rows[i][what - 1]);
            }
        }
    }

    private static void scoreOutside() {
        Due.sentence("SCORE, as it is now; NONE if there is none such");
        LotHouse x = Due.told(SILENT);
        due("score(2) ahead of any YEAR", x.score(2), 0);
        x.year(false, 3, 0, 0);
        due("score(2)", x.score(2), 300000);
        for (int p : new int[] {-1, 3, 16, Integer.MAX_VALUE, Integer.MIN_VALUE}) {
            due("score(" + p + ")", x.score(p), NONE);
        }
        due("score(0) of nobody", new LotHouse().score(0), NONE);
    }

    private static void yearRefused() {
        Due.sentence("year: NONE, doing nothing, if a number is below 0, there are not so many PERSONS");
        LotHouse x = Due.told(SILENT + "depth 5 wrong 5;");
        x.year(false, 1, 1, 1);
        String before = Due.all(x);
        int max = Integer.MAX_VALUE;
        int min = Integer.MIN_VALUE;
        int[][] cant = {{-1, 0, 0}, {0, -1, 0}, {0, 0, -1}, {-1, 2, 1}, {2, -1, 1}, {2, 1, -1}, {4, 0, 0}, {0, 4, 0},
            {0, 0, 4}, {2, 2, 0}, {0, 2, 2}, {2, 0, 2}, {2, 1, 1}, {max, 0, 0}, {0, max, 0}, {0, 0, max}, {max, max, 2},
            {max, 2, max}, {2, max, max}, {max, max, max}, {max, 1, 0}, {0, 1, max}, {min, 0, 0}, {min, min, 0},
            {0, min, min}, {min, max, 1}, {1 << 30, 1 << 30, 1 << 31}, {1 << 30, 1 << 30, 1 << 30}};
        for (int[] row : cant) {
            String call = "year(" + row[0] + ", " + row[1] + ", " + row[2] + ")";
            due(call, x.year(true, row[0], row[1], row[2]), NONE);
        }
        Due.same("refused YEARS", Due.all(x), before);
    }

    private static void sumOutside() {
        Due.sentence("sum: of a YEAR (1 the first) .. NONE if there is none such, or for another what");
        LotHouse x = Due.told(SILENT);
        due("sum(1, 0) ahead of any YEAR", x.sum(1, 0), NONE);
        x.year(false, 1, 0, 0);
        x.year(false, 2, 0, 0);
        due("sum(1, 0)", x.sum(1, 0), 100);
        due("sum(2, 0)", x.sum(2, 0), 300);
        for (int year : new int[] {-1, 0, 3, 30, 31, Integer.MAX_VALUE, Integer.MIN_VALUE}) {
            for (int what = -1; what <= 6; what++) {
                due("sum(" + year + ", " + what + ")", x.sum(year, what), NONE);
            }
        }
        for (int what : new int[] {-1, 6, Integer.MAX_VALUE, Integer.MIN_VALUE}) {
            due("sum(1, " + what + ")", x.sum(1, what), NONE);
        }
    }
}
