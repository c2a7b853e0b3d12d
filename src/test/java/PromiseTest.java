/** Each promise of the document with answers worked out by hand: the ordinary, the edges, wrong inputs. */
public final class PromiseTest {
    private static final int NONE = LotHouse.NONE;
    private static final int NO_NUMBER = -1000000;

    /** Two KINDS; those of q write nothing; LOOKS find half and are WRONG seven times in ten. */
    private static final String TOWN = "kind p;kind q;person a kind p earns 100 paper 30 signs 1;"
        + "person b kind p earns 200 paper 0 signs 2 near a;person c kind q earns 300 paper 0 signs 3 near b;"
        + "person d kind q earns 50 paper 50 signs 4;ways p earns * belief / 10;ways q 0;depth 5 wrong 7;"
        + "teach found 2 clean 1 heard 1 letter 3;";
    /** a is near b, c and d; nobody is near e. */
    private static final String STAR = "kind k;" + plain("b", "") + plain("a", " near b") + plain("c", " near a")
        + plain("d", " near a") + plain("e", "");
    private static final String LETTERS = "kind k;person a kind k earns 100 paper 0 signs 0;"
        + "person b kind k earns 200 paper 0 signs 0;person c kind k earns 410 paper 0 signs 0;"
        + "ways k belief * earns / 100;teach found 1 clean 1 heard 0 letter 1;";
    private static final String SILENT = "kind k;person a kind k earns 10 paper 0 signs 0;"
        + "person b kind k earns 20 paper 0 signs 0;person c kind k earns 31 paper 0 signs 0;ways k 0;";

    private static int wrong = 0;
    private static int asked = 0;
    private static String promise = "";

    private static String plain(String name, String behind) {
        return "person " + name + " kind k earns 100 paper 0 signs 0" + behind + ";";
    }

    private static void due(String call, int got, int want) {
        asked++;
        if (got != want) {
            wrong++;
            System.out.println("promise " + promise + ": " + call + " answered " + got + ", due is " + want);
        }
    }

    private static LotHouse told(String text) {
        LotHouse x = new LotHouse();
        if (Texts.land(x, text) == NONE) {
            due("land of " + text + " at " + x.fault(1), x.fault(0), 0);
        }
        return x;
    }

    /** The town behind a YEAR with match, one SMELT (a), one by LOT (d), a LETTER (c). */
    private static LotHouse townYear() {
        LotHouse x = told(TOWN);
        due("year(true, 1, 1, 1)", x.year(true, 1, 1, 1), 225);
        return x;
    }

    public static void main(String[] args) {
        newObject();
        feed();
        end();
        land();
        faults();
        faultsOfNumbersAndNames();
        ways();
        persons();
        scores();
        years();
        beliefs();
        sums();
        estimates();
        blindAndKinds();
        hears();
        letters();
        cash();
        owedAndLine();
        worths();
        bests();
        knownAndGame();
        images();
        seeds();
        abouts();
        System.out.println(wrong == 0 ? "all " + asked + " answers are as due" : wrong + " answers are not as due");
        if (wrong != 0) {
            System.exit(1);
        }
    }

    private static void newObject() {
        promise = "1";
        LotHouse x = new LotHouse();
        int[] about = {0, 0, 0, 1, 0, 10, 0, 0};
        for (int what = 0; what < about.length; what++) {
            due("about(" + what + ")", x.about(what), about[what]);
        }
        due("fault(0)", x.fault(0), 0);
        due("fault(1)", x.fault(1), NONE);
        due("person(0, 0)", x.person(0, 0), NONE);
        due("kind(0, 0)", x.kind(0, 0), NONE);
        due("hears(0, 0)", x.hears(0, 0), NONE);
        due("smelt(0)", x.smelt(0), NONE);
        due("known(true, 0)", x.known(true, 0), NONE);
        due("first(1, 0)", x.first(1, 0), NONE);
        due("goes(1, 1, 0)", x.goes(1, 1, 0), NONE);
        due("back(0)", x.back(0), NONE);
        due("land() of nothing", x.land(), 0);
        due("fault(0)", x.fault(0), 0);
        due("NONE", LotHouse.NONE, -1);
    }

    private static void feed() {
        promise = "2";
        LotHouse x = new LotHouse();
        for (int i = 1; i <= 80; i++) {
            due("feed", x.feed(0x20202020, 0x20202020, 0x20202020, 0x20202020, 0x20202020), 20 * i);
        }
        due("feed beyond 1,600", x.feed(0, 0, 0, 0, 0), NONE);
        due("about(4)", x.about(4), 1600);
        due("land() of blanks alone", x.land(), 0);
        fault(2, "^" + ";".repeat(1600));
        fault(1, " ".repeat(1599) + "^A");
        fault(2, " ".repeat(1599) + "^a");
        fault(2, " ".repeat(1596) + "kind^");
        x = new LotHouse();
        // "kind", " ab;", and a byte above 127 as the highest of the third number
        due("feed", x.feed(0x6b696e64, 0x2061623b, 0xe9202020, 0x20202020, 0x20202020), 20);
        due("land()", x.land(), NONE);
        due("fault(0)", x.fault(0), 1);
        due("fault(1)", x.fault(1), 8);
        due("end(1581)", x.end(1581), NONE);
        for (int i = 2; i <= 79; i++) {
            x.feed(0, 0, 0, 0, 0);
        }
        due("end(1579)", x.end(1579), 1579);
        due("feed", x.feed(0, 0, 0, 0, 0), 1599);
        due("feed", x.feed(0, 0, 0, 0, 0), NONE);
        due("about(4)", x.about(4), 1599);
    }

    private static void end() {
        promise = "3";
        LotHouse x = new LotHouse();
        Texts.feed(x, "kind a; and more behind");
        due("end(24)", x.end(24), NONE);
        due("end(-1)", x.end(-1), NONE);
        due("about(4)", x.about(4), 23);
        due("end(23)", x.end(23), 23);
        due("end(7)", x.end(7), 7);
        due("end(8)", x.end(8), NONE);
        due("land()", x.land(), 0);
        due("about(0)", x.about(0), 1);
        due("end(0)", x.end(0), 0);
        due("end(1)", x.end(1), NONE);
    }

    private static void land() {
        promise = "4";
        LotHouse x = townYear();
        int w = x.about(3);
        x.image(1);
        Texts.feed(x, "kind a;kind a;");
        due("land()", x.land(), NONE);
        due("about(4), all stays", x.about(4), 14);
        due("about(1), all stays", x.about(1), 4);
        due("about(2), all stays", x.about(2), 1);
        due("person(0, 5), all stays", x.person(0, 5), 70);
        due("about(7), all stays", x.about(7), 4);
        due("about(5), all stays", x.about(5), 5);
        due("back(1), all stays", x.back(1), 1);
        x.end(7);
        due("land()", x.land(), 0);
        due("about(4)", x.about(4), 0);
        due("about(0)", x.about(0), 1);
        due("about(1)", x.about(1), 0);
        due("about(2)", x.about(2), 0);
        due("about(3), w stays", x.about(3), w);
        due("about(5)", x.about(5), 10);
        due("about(6)", x.about(6), 0);
        due("about(7)", x.about(7), 0);
        due("back(1), empty", x.back(1), NONE);
        due("land() of a KIND and a PERSON of like NAME", Texts.land(x, "kind k;person k kind k earns 1 paper 0 signs 0;"), 1);
        due("person(0, 0)", x.person(0, 0), 5);
        due("person(0, 3)", x.person(0, 3), 0);
        due("land() without blanks", Texts.land(x, "kind a;person\nb kind a earns9 paper9 signs0;ways a(earns);"), 1);
        due("person(0, 5)", x.person(0, 5), 9);
    }

    /** The place is where the text has a ^, which is left out. */
    private static void fault(int fault, String text) {
        LotHouse x = new LotHouse();
        due("land of " + text, Texts.land(x, text.replace("^", "")), NONE);
        due("fault(0) of " + text, x.fault(0), fault);
        due("fault(1) of " + text, x.fault(1), text.indexOf('^'));
        due("fault(2)", x.fault(2), NONE);
        due("fault(-1)", x.fault(-1), NONE);
        due("land()", Texts.land(x, "kind a;"), 0);
        due("fault(0)", x.fault(0), 0);
        due("fault(1)", x.fault(1), NONE);
    }

    private static void faults() {
        promise = "5";
        fault(1, "kind ^A;");
        fault(1, "kind a^\t;");
        fault(1, "kind a;^\u0000");
        fault(1, "kind a;^\u00e9");
        fault(1, "kind ^abcdefghi;");
        fault(1, "kind a;person b kind a earns ^12345");
        fault(1, "kind a;person b kind a earns ^12x");
        fault(1, "^1a;");
        fault(1, "kind a;ways a earns ^.");
        fault(2, "^;");
        fault(2, "^a;");
        fault(2, "^12");
        fault(2, "kind ^;");
        fault(2, "kind ^person;");
        fault(2, "kind ^12;");
        fault(2, "kind^");
        fault(2, "kind a^");
        fault(2, "kind a \n ^");
        fault(2, "kind a ^b;");
        fault(2, "kind a;kind b;kind c;kind d;^kind e;");
        fault(2, "kind a;kind b;kind c;kind d;^kind a;");
        StringBuilder sixteen = new StringBuilder("kind k;");
        for (char c = 'a'; c < 'q'; c++) {
            sixteen.append(plain(Character.toString(c), ""));
        }
        due("16 PERSONS", Texts.land(new LotHouse(), sixteen.toString()), 16);
        fault(2, sixteen + "^person q");
        fault(2, "depth 1 wrong 1;^depth 1 wrong 1;");
        fault(2, "teach found 1 clean 1 heard 1 letter 1;^teach found 1 clean 1 heard 1 letter 1;");
        fault(2, "depth 1 ^;");
        fault(2, "teach ^clean 1");
        fault(2, "kind k;person a ^earns 1");
        fault(2, "kind k;person a kind k earns ^paper");
        fault(2, "kind k;" + "person a kind k earns 1 paper 1 signs 1 near ^;");
        fault(2, "kind k;" + plain("a", "") + "person b kind k earns 1 paper 1 signs 1 near a ^near");
        fault(2, "kind k;ways k ^;");
        fault(2, "kind k;ways k ^k;");
        fault(2, "kind k;ways k earns ^earns;");
        fault(2, "kind k;ways k earns / ^earns;");
        fault(2, "kind k;ways k earns / ^(2);");
        fault(2, "kind k;ways k (earns^;");
        fault(2, "kind k;ways k earns ^);");
        fault(2, "kind k;ways k ^- earns;");
        fault(2, "kind k;ways k ((((((( ^( 1 ))))))));");
        fault(2, "kind k;ways k 1+(((((((1)))))))*((((((( ^( 1 ))))))));");
        String ten = "1+1+1+1+1+1+1+1+1+1";
        fault(2, "kind k;ways k " + ten + "+" + ten + "+" + ten + "+" + ten + "+^1;");
        fault(2, "kind k;ways k " + ten + "+" + ten + "+" + ten + "+" + ten + "+^(1);");
        fault(2, "kind k;ways k " + ten + "+" + ten + "+" + ten + "+" + ten + "/^0;");
        fault(2, "kind k;kind l;ways l " + ten + "+" + ten + ";ways k " + ten + "+" + ten + "-^belief;");
    }

    private static void faultsOfNumbersAndNames() {
        promise = "5";
        fault(3, "kind a;kind ^a;");
        fault(3, "kind k;" + plain("a", "") + "person ^a kind k");
        fault(3, "kind k;" + plain("a", "") + "person b kind k earns 1 paper 1 signs 1 near a ^a;");
        fault(3, "kind k;ways k 1;ways ^k 1;");
        fault(3, "kind a;kind ^a A");
        fault(4, "kind k;person a kind k earns ^1000 paper 1");
        fault(4, "kind k;person a kind k earns 10 paper ^11 signs 1");
        fault(4, "kind k;person a kind k earns 10 paper 10 signs ^16;");
        fault(4, "kind k;ways k 1 / ^0;");
        fault(4, "kind k;ways k 1 / ^0000;");
        fault(4, "depth ^11 wrong 0;");
        fault(4, "depth 10 wrong ^11;");
        fault(4, "teach found ^10 clean 1 heard 1 letter 1;");
        fault(4, "teach found 9 clean ^10 heard 1 letter 1;");
        fault(4, "teach found 9 clean 9 heard ^10 letter 1;");
        fault(4, "teach found 9 clean 9 heard 9 letter ^10;");
        fault(5, "person a kind ^k earns 1");
        fault(5, "kind k;" + plain("a", "") + "person b kind ^a earns 1");
        fault(5, "kind k;ways ^a 1;");
        fault(5, "kind k;person a kind k earns 1 paper 1 signs 1 near ^b;");
        fault(5, "kind k;person a kind k earns 1 paper 1 signs 1 near ^a;");
        fault(5, "kind k;person a kind k earns 1 paper 1 signs 1 near ^k;");
        fault(5, "kind k;" + plain("a", "") + "person b kind k earns 1 paper 1 signs 1 near a ^c;");
        due("the outermost numbers", Texts.land(new LotHouse(), "kind abcdefgh;person a kind abcdefgh earns 0999 paper 999 "
            + "signs 15;ways abcdefgh 9999/9999;depth 0 wrong 0;teach found 9 clean 9 heard 9 letter 9;"), 1);
        due("7 ( within one another", Texts.land(new LotHouse(), "kind k;ways k (((((((1)))))))*(((((((1)))))));"), 0);
    }

    private static int written(String way) {
        LotHouse x = told("kind k;person a kind k earns 900 paper 77 signs 0;ways k " + way + ";");
        return x.person(0, 5);
    }

    private static void ways() {
        promise = "6";
        due("without ways", told("kind k;" + plain("a", "")).person(0, 5), 100);
        due("100 - 30 - 20", written("100 - 30 - 20"), 50);
        due("2 + 3 * 4", written("2 + 3 * 4"), 14);
        due("(2 + 3) * 4", written("(2 + 3) * 4"), 20);
        due("100 / 7 * 7", written("100 / 7 * 7"), 98);
        due("(0 - 7) / 2 + 10", written("(0 - 7) / 2 + 10"), 7);
        due("0 - 1", written("0 - 1"), 0);
        due("901", written("901"), 900);
        due("paper", written("paper"), 77);
        due("earns", written("earns"), 900);
        due("belief", written("belief"), 5);
        due("last", written("last"), 0);
        due("year", written("year"), 1);
        // 9999 * 9999 * 9999 wraps to -1027349969
        due("wrapping", written("0 - 9999*9999*9999 / 9999 / 999"), 102);
        due("wrapping", written("9999*9999*9999"), 0);
        LotHouse x = told("kind k;person a kind k earns 900 paper 0 signs 0;ways k last * 2 + year;");
        due("year", x.year(false, 0, 0, 0), 1);
        due("year", x.year(false, 0, 0, 0), 4);
        due("year", x.year(false, 0, 0, 0), 11);
    }

    private static void persons() {
        promise = "6";
        LotHouse x = told(TOWN);
        int[][] first = {{5, 0, 0, 0, 0, 50}, {5, 0, 0, 0, 0, 100}, {5, 0, 0, 0, 0, 0}, {5, 0, 0, 0, 0, 0}};
        int[][] then = {{7, 50, 75, 1, 1, 70}, {6, 100, 100, 0, 0, 120}, {8, 0, 0, 0, 0, 0}, {7, 0, 50, 1, 1, 0}};
        eachPerson(x, first);
        eachPerson(townYear(), then);
    }

    private static void eachPerson(LotHouse x, int[][] rows) {
        for (int p = 0; p < rows.length; p++) {
            for (int what = 0; what < 6; what++) {
                due("person(" + p + ", " + what + ")", x.person(p, what), rows[p][what]);
            }
        }
        due("person(0, 6)", x.person(0, 6), NONE);
        due("person(0, -1)", x.person(0, -1), NONE);
        due("person(4, 0)", x.person(rows.length, 0), NONE);
        due("person(-1, 0)", x.person(-1, 0), NONE);
    }

    private static void scores() {
        promise = "7 and 25";
        LotHouse x = told(TOWN);
        int[] byNumber = {0, 1, 2, 3};
        for (int i = 0; i < 4; i++) {
            due("score(" + i + ")", x.score(i), 0);
            due("smelt(" + i + ")", x.smelt(i), byNumber[i]);
        }
        x = townYear();
        int[] scores = {25000, 0, 25000, 0};
        int[] order = {0, 2, 1, 3};
        for (int i = 0; i < 4; i++) {
            due("score(" + i + ")", x.score(i), scores[i]);
            due("smelt(" + i + ")", x.smelt(i), order[i]);
        }
        due("score(4)", x.score(4), NONE);
        due("score(-1)", x.score(-1), NONE);
        due("smelt(4)", x.smelt(4), NONE);
        due("smelt(-1)", x.smelt(-1), NONE);
        // a second LOOK at a finds (100 - 70) * 5 / 10 = 15: 40 in 2 LOOKS
        x.year(false, 1, 0, 0);
        due("score(2)", x.score(2), 20000);
        // three LOOKS at those with the sign, 10 + 0 + 0: cut
        x = told("kind k;kind l;person a kind k earns 10 paper 0 signs 8;person b kind l earns 10 paper 0 signs 8;"
            + "person c kind l earns 10 paper 0 signs 8;ways k 0;");
        due("year", x.year(false, 3, 0, 0), 30);
        due("score(0)", x.score(0), 3333);
    }

    private static void years() {
        promise = "8";
        LotHouse x = townYear();
        due("w behind four DRAWS", x.about(3), -999580867);
        due("a second YEAR", x.year(false, 1, 0, 0), 205);
        due("year(false, -1, 0, 0)", x.year(false, -1, 0, 0), NONE);
        due("year(false, 0, -1, 0)", x.year(false, 0, -1, 0), NONE);
        due("year(false, 0, 0, -1)", x.year(false, 0, 0, -1), NONE);
        due("year(false, 5, 0, 0)", x.year(false, 5, 0, 0), NONE);
        due("year(false, 2, 2, 1)", x.year(false, 2, 2, 1), NONE);
        due("year(false, 1, 0, 4)", x.year(false, 1, 0, 4), NONE);
        due("year of numbers that wrap", x.year(false, Integer.MAX_VALUE, Integer.MAX_VALUE, 2), NONE);
        due("year of numbers that wrap", x.year(false, 1, Integer.MAX_VALUE, Integer.MAX_VALUE), NONE);
        due("about(2)", x.about(2), 2);
        x = told(SILENT);
        for (int year = 1; year <= 30; year++) {
            due("year " + year, x.year(false, 0, 3, 0), 61);
        }
        int w = x.about(3);
        due("a 31st YEAR", x.year(false, 0, 0, 0), NONE);
        due("about(2)", x.about(2), 30);
        due("about(3)", x.about(3), w);
        // without WRONG nothing is drawn but the LOTS: w1 takes c of three, w2 takes a of two, w3 takes b
        x = told(SILENT);
        x.year(false, 0, 3, 0);
        due("w behind three DRAWS", x.about(3), 662824084);
        x = told(SILENT);
        x.year(false, 3, 0, 0);
        due("w behind no DRAW", x.about(3), 1);
    }

    private static void beliefs() {
        promise = "8";
        // a and b are both found and hear of one another: 5 + 9 is 9 at most, and then 1 more is 9
        String pair = "kind k;person a kind k earns 10 paper 0 signs 0;person b kind k earns 10 paper 0 signs 0 near a;";
        LotHouse x = told(pair + "ways k 0;teach found 9 clean 3 heard 1 letter 2;");
        x.year(false, 2, 0, 0);
        due("person(0, 0)", x.person(0, 0), 9);
        due("person(1, 0)", x.person(1, 0), 9);
        // both are clean: 5 - 3, then 0 at least; nobody hears of it
        x = told(pair + "teach found 9 clean 3 heard 1 letter 2;");
        x.year(false, 2, 0, 0);
        due("person(0, 0)", x.person(0, 0), 2);
        x.year(false, 2, 0, 0);
        due("person(1, 0)", x.person(1, 0), 0);
        // WRONG alone: found more, but nobody hears of it, and nothing is FOUND
        x = told(pair + "depth 10 wrong 10;teach found 2 clean 3 heard 1 letter 2;");
        due("year", x.year(false, 1, 0, 0), 20);
        due("person(0, 0)", x.person(0, 0), 7);
        due("person(1, 0)", x.person(1, 0), 5);
        due("person(0, 2)", x.person(0, 2), 10);
        due("score(0)", x.score(0), 0);
        // depth 0 finds nothing
        x = told(pair + "ways k 0;depth 0 wrong 0;");
        due("year", x.year(false, 2, 0, 0), 0);
        due("person(0, 0)", x.person(0, 0), 4);
        // a LETTER: w1 takes a of two
        x = told(pair + "teach found 2 clean 3 heard 1 letter 3;");
        x.year(false, 0, 0, 1);
        due("person(0, 0)", x.person(0, 0), 8);
        due("person(1, 0)", x.person(1, 0), 5);
        x.year(false, 0, 0, 2);
        due("person(0, 0)", x.person(0, 0), 9);
        due("person(1, 0)", x.person(1, 0), 8);
    }

    private static void sums() {
        promise = "9";
        LotHouse x = townYear();
        int[] sums = {225, 425, 25, 0, 50, 2};
        for (int what = 0; what < 6; what++) {
            due("sum(1, " + what + ")", x.sum(1, what), sums[what]);
        }
        due("sum(1, 6)", x.sum(1, 6), NONE);
        due("sum(1, -1)", x.sum(1, -1), NONE);
        due("sum(0, 0)", x.sum(0, 0), NONE);
        due("sum(2, 0)", x.sum(2, 0), NONE);
        x.year(false, 1, 0, 0);
        due("sum(2, 0)", x.sum(2, 0), 205);
        due("sum(2, 4)", x.sum(2, 4), 0);
        due("sum(1, 0)", x.sum(1, 0), 225);
    }

    private static void estimates() {
        promise = "10";
        LotHouse x = townYear();
        due("estimate(1, 0)", x.estimate(1, 0), 25);
        due("estimate(1, 1)", x.estimate(1, 1), 1);
        x = told(SILENT);
        x.year(false, 0, 2, 0);
        due("estimate(1, 0)", x.estimate(1, 0), 123);
        due("estimate(1, 1)", x.estimate(1, 1), 2);
        due("estimate(1, 2)", x.estimate(1, 2), NONE);
        due("estimate(1, -1)", x.estimate(1, -1), NONE);
        due("estimate(0, 0)", x.estimate(0, 0), NONE);
        due("estimate(2, 0)", x.estimate(2, 0), NONE);
        x.year(false, 1, 2, 0);
        due("estimate(2, 0)", x.estimate(2, 0), 173);
        due("estimate(2, 1)", x.estimate(2, 1), 2);
        x.year(false, 3, 0, 0);
        due("estimate(3, 0) without LOT", x.estimate(3, 0), NONE);
        x = told("kind k;" + plain("a", "") + plain("b", "") + plain("c", ""));
        x.year(false, 0, 3, 0);
        due("estimate(1, 0) of nothing", x.estimate(1, 0), 0);
        due("estimate(1, 1) of nothing", x.estimate(1, 1), 1);
    }

    private static void blindAndKinds() {
        promise = "11";
        due("blind()", told(TOWN).blind(), 4);
        LotHouse x = townYear();
        due("blind()", x.blind(), 2);
        x = told(SILENT);
        due("blind()", x.blind(), 1);
        x.year(false, 1, 0, 0);
        due("blind(): like signs", x.blind(), 0);
        promise = "12";
        x = told(TOWN);
        due("kind(0, 3) ahead of any YEAR", x.kind(0, 3), 300);
        due("kind(1, 3) ahead of any YEAR", x.kind(1, 3), 350);
        x = townYear();
        int[][] rows = {{2, 1, 25, 125}, {2, 1, 0, 300}};
        for (int kind = 0; kind < 2; kind++) {
            for (int what = 0; what < 4; what++) {
                due("kind(" + kind + ", " + what + ")", x.kind(kind, what), rows[kind][what]);
            }
        }
        due("kind(0, 4)", x.kind(0, 4), NONE);
        due("kind(0, -1)", x.kind(0, -1), NONE);
        due("kind(2, 0)", x.kind(2, 0), NONE);
        due("kind(-1, 0)", x.kind(-1, 0), NONE);
        promise = "13";
        due("fairest()", x.fairest(), 0);
        x.year(false, 1, 0, 0);
        due("fairest()", x.fairest(), 500);
        x = told("kind k;kind l;kind m;person a kind k earns 1 paper 1 signs 0;person b kind l earns 1 paper 1 signs 0;"
            + "person c kind l earns 1 paper 1 signs 0;person d kind l earns 1 paper 1 signs 0;");
        x.year(false, 2, 0, 0);
        due("fairest(), m has nobody", x.fairest(), 667);
        due("fairest() without PERSONS", told("kind k;").fairest(), NONE);
    }

    private static void hears() {
        promise = "14";
        LotHouse x = told(TOWN);
        due("hears(0, 0)", x.hears(0, 0), 0);
        due("hears(0, 1)", x.hears(0, 1), 1);
        due("hears(1, 0)", x.hears(1, 0), 1);
        due("hears(0, 2)", x.hears(0, 2), 2);
        due("hears(0, 3)", x.hears(0, 3), 99);
        due("hears(3, 3)", x.hears(3, 3), 0);
        due("hears(0, 4)", x.hears(0, 4), NONE);
        due("hears(-1, 0)", x.hears(-1, 0), NONE);
        StringBuilder chain = new StringBuilder("kind k;" + plain("a", ""));
        for (char c = 'b'; c < 'q'; c++) {
            chain.append(plain(Character.toString(c), " near " + (char) (c - 1)));
        }
        due("hears(0, 15)", told(chain.toString()).hears(0, 15), 15);
        due("hears(15, 0)", told(chain.toString()).hears(15, 0), 15);
    }

    private static void letters() {
        promise = "15 and 16";
        LotHouse x = told(LETTERS);
        // w1 takes c of three, w2 a of two: a writes 5, then 6; b 10; c 20, then 24
        x.year(false, 0, 0, 2);
        due("did(1, 0) of the latest", x.did(1, 0), NO_NUMBER);
        due("luck(1, 0) of the latest", x.luck(1, 0), NONE);
        x.year(false, 0, 0, 0);
        int[] did = {5, 2};
        int[] luck = {1, 3};
        for (int part = 0; part < 2; part++) {
            due("did(1, " + part + ")", x.did(1, part), did[part]);
            due("luck(1, " + part + ")", x.luck(1, part), luck[part]);
        }
        for (int part : new int[] {-1, 2}) {
            due("did(1, " + part + ")", x.did(1, part), NO_NUMBER);
            due("luck(1, " + part + ")", x.luck(1, part), NONE);
        }
        for (int year : new int[] {-1, 0, 2, 3, Integer.MAX_VALUE, Integer.MIN_VALUE}) {
            due("did(" + year + ", 0)", x.did(year, 0), NO_NUMBER);
            due("luck(" + year + ", 0)", x.luck(year, 0), NONE);
        }
        x.year(false, 0, 0, 3);
        due("did(2, 0): nobody got a LETTER", x.did(2, 0), NO_NUMBER);
        x.year(false, 1, 0, 0);
        due("did(3, 0): all got one", x.did(3, 0), NO_NUMBER);
        due("luck(3, 0)", x.luck(3, 0), NONE);
        x = townYear();
        x.year(false, 1, 0, 0);
        // b wrote 20 more without a LETTER, c with one nothing more; a and d were looked at
        due("did(1, 0)", x.did(1, 0), -20);
        due("did(1, 1)", x.did(1, 1), 1);
        due("luck(1, 0)", x.luck(1, 0), 1);
        due("luck(1, 1)", x.luck(1, 1), 1);
        StringBuilder sixteen = new StringBuilder("kind k;");
        for (char c = 'a'; c < 'q'; c++) {
            sixteen.append(plain(Character.toString(c), ""));
        }
        x = told(sixteen + "ways k belief * 10;");
        x.year(false, 0, 0, 8);
        x.year(false, 0, 0, 0);
        due("did(1, 0) of 16", x.did(1, 0), 10);
        due("luck(1, 0) of 16", x.luck(1, 0), 1);
        due("luck(1, 1) of 16", x.luck(1, 1), 12870);
    }

    private static void cash() {
        promise = "17";
        LotHouse x = told(STAR);
        int[][] rows = {{2, 10, 1, 4}, {1, 4, 0, 1}, {1, 3, 2, 4}, {16, 1, 0, 1}, {31, 1, 0, 5}, {5, 6, 2, 4}, {5, 7, 0, 2}};
        for (int[] row : rows) {
            due("goes(" + row[0] + ", " + row[1] + ", 0)", x.goes(row[0], row[1], 0), row[2]);
            due("goes(" + row[0] + ", " + row[1] + ", 1)", x.goes(row[0], row[1], 1), row[3]);
        }
        int[][] cant = {{0, 5, 0}, {32, 5, 0}, {33, 5, 0}, {-1, 5, 0}, {Integer.MIN_VALUE, 5, 0}, {1, 0, 0}, {1, 11, 0},
            {1, 5, 2}, {1, 5, -1}};
        for (int[] row : cant) {
            due("goes(" + row[0] + ", " + row[1] + ", " + row[2] + ")", x.goes(row[0], row[1], row[2]), NONE);
        }
        promise = "18";
        due("first(4, 0)", x.first(4, 0), 1);
        due("first(4, 1)", x.first(4, 1), 4);
        due("first(3, 0)", x.first(3, 0), 0);
        due("first(3, 1)", x.first(3, 1), 4);
        due("first(0, 0)", x.first(0, 0), NONE);
        due("first(11, 0)", x.first(11, 0), NONE);
        due("first(5, 2)", x.first(5, 2), NONE);
        due("first(5, -1)", x.first(5, -1), NONE);
        due("first without PERSONS", told("kind k;").first(5, 0), NONE);
    }

    private static void owedAndLine() {
        promise = "19";
        LotHouse x = townYear();
        due("owed(0)", x.owed(0), 10);
        due("owed(1)", x.owed(1), 10);
        due("owed(2)", x.owed(2), NONE);
        due("owed(-1)", x.owed(-1), NONE);
        x = told(SILENT + "depth 10 wrong 10;");
        x.year(false, 1, 1, 0);
        x.year(false, 1, 0, 0);
        due("owed(0)", x.owed(0), 30);
        promise = "20";
        x = told(SILENT);
        x.year(false, 3, 0, 0);
        due("line(true)", x.line(true), NONE);
        due("line(false)", x.line(false), NONE);
        x = told(SILENT);
        x.year(false, 0, 2, 0);
        x.year(false, 1, 2, 0);
        x.year(false, 3, 0, 0);
        due("line(false)", x.line(false), 61);
        due("line(true)", x.line(true), 86);
    }

    private static void worths() {
        promise = "21";
        due("worth(0) ahead of any YEAR", told(TOWN).worth(0), NO_NUMBER);
        LotHouse x = townYear();
        int[] worth = {52, 100, 170, 0};
        for (int p = 0; p < 4; p++) {
            due("worth(" + p + ")", x.worth(p), worth[p]);
        }
        due("worth(4)", x.worth(4), NO_NUMBER);
        due("worth(-1)", x.worth(-1), NO_NUMBER);
        eachPerson(x, new int[][] {{7, 50, 75, 1, 1, 70}, {6, 100, 100, 0, 0, 120}, {8, 0, 0, 0, 0, 0},
            {7, 0, 50, 1, 1, 0}});
        // all was paid by match: a LOOK finds nothing, and it would write 20 less
        x = told("kind k;person a kind k earns 100 paper 100 signs 0;ways k belief * 10;teach found 1 clean 2 heard 0 letter 1;");
        x.year(true, 0, 0, 0);
        due("worth(0)", x.worth(0), -20);
    }

    private static void bests() {
        promise = "22";
        LotHouse x = townYear();
        int[][] rows = {{0, 1, 0, 190}, {1, 1, 0, 215}, {2, 1, 2, 355}, {1, 2, 0, 555}};
        for (int[] row : rows) {
            due("best(" + row[0] + ", " + row[1] + ", 0)", x.best(row[0], row[1], 0), row[2]);
            due("best(" + row[0] + ", " + row[1] + ", 1)", x.best(row[0], row[1], 1), row[3]);
        }
        due("about(3), w stays", x.about(3), -999580867);
        due("about(2), YEARS stay", x.about(2), 1);
        int[][] cant = {{-1, 1, 0}, {5, 1, 0}, {1, 0, 0}, {1, 4, 0}, {1, 1, 2}, {1, 1, -1}};
        for (int[] row : cant) {
            due("best(" + row[0] + ", " + row[1] + ", " + row[2] + ")", x.best(row[0], row[1], row[2]), NONE);
        }
        StringBuilder eight = new StringBuilder("kind k;");
        for (char c = 'a'; c < 'i'; c++) {
            eight.append(plain(Character.toString(c), ""));
        }
        x = told(eight + "ways k year;");
        due("best(6, 1, 1)", x.best(6, 1, 1), 602);
        due("best(6, 1, 0), like ones", x.best(6, 1, 0), 0);
        due("best(7, 1, 0)", x.best(7, 1, 0), NONE);
        for (int year = 1; year <= 30; year++) {
            x.year(false, 0, 0, 0);
        }
        due("best beyond 30 YEARS", x.best(0, 3, 1), 8 * (31 + 32 + 33));
        due("sum(30, 0)", x.sum(30, 0), 240);
        due("sum(31, 0)", x.sum(31, 0), NONE);
    }

    private static void knownAndGame() {
        promise = "23 and 24";
        LotHouse x = townYear();
        int[] smelt = {0, 90, 90, 270, 270};
        int[] lot = {0, 60, 120, 180, 270};
        int[] game = {1, 0, 1, 0, 1};
        for (int n = 0; n <= 4; n++) {
            due("known(false, " + n + ")", x.known(false, n), smelt[n]);
            due("known(true, " + n + ")", x.known(true, n), lot[n]);
            due("game(" + n + ")", x.game(n), game[n]);
        }
        for (int n : new int[] {-1, 5, Integer.MAX_VALUE, Integer.MIN_VALUE}) {
            due("known(false, " + n + ")", x.known(false, n), NONE);
            due("known(true, " + n + ")", x.known(true, n), NONE);
            due("game(" + n + ")", x.game(n), NONE);
        }
        due("person(1, 0) stays", x.person(1, 0), 6);
        due("known(false, 0) without PERSONS", told("kind k;").known(false, 0), NONE);
        due("game(0) without PERSONS", told("kind k;").game(0), NONE);
    }

    private static void images() {
        promise = "26 and 27";
        LotHouse x = townYear();
        due("back(0)", x.back(0), NONE);
        due("back(3)", x.back(3), NONE);
        due("back(-1)", x.back(-1), NONE);
        due("image(3)", x.image(3), NONE);
        due("image(-1)", x.image(-1), NONE);
        due("image(2)", x.image(2), 1);
        due("back(1)", x.back(1), NONE);
        x.year(false, 0, 4, 0);
        x.year(true, 0, 0, 4);
        due("image(0)", x.image(0), 3);
        x.seed(5);
        due("back(2)", x.back(2), 1);
        due("about(2)", x.about(2), 1);
        due("about(3)", x.about(3), -999580867);
        due("sum(2, 0)", x.sum(2, 0), NONE);
        eachPerson(x, new int[][] {{7, 50, 75, 1, 1, 70}, {6, 100, 100, 0, 0, 120}, {8, 0, 0, 0, 0, 0},
            {7, 0, 50, 1, 1, 0}});
        due("score(2)", x.score(2), 25000);
        due("a second YEAR", x.year(false, 1, 0, 0), 205);
        due("sum(2, 0)", x.sum(2, 0), 205);
        due("back(0)", x.back(0), 3);
        due("sum(2, 3) of the kept YEARS", x.sum(2, 3), 15 + 40 + 150 + 25);
        due("back(2) again", x.back(2), 1);
        due("image(0) over the first", x.image(0), 1);
        due("back(0)", x.back(0), 1);
    }

    private static void seeds() {
        promise = "28";
        LotHouse x = told(SILENT);
        due("seed(-7)", x.seed(-7), 1);
        due("seed(MIN)", x.seed(Integer.MIN_VALUE), -7);
        due("about(3)", x.about(3), Integer.MIN_VALUE);
        due("seed(1)", x.seed(1), Integer.MIN_VALUE);
        // with w1 c is taken of three, with w2 (as if the first had been drawn) a
        x.year(false, 0, 1, 0);
        due("sum(1, 3)", x.sum(1, 3), 31);
        x.seed(1103527590);
        x.year(false, 0, 1, 0);
        due("sum(2, 3)", x.sum(2, 3), 10);
    }

    private static void abouts() {
        promise = "29";
        LotHouse x = townYear();
        Texts.feed(x, "kind");
        int[] about = {2, 4, 1, -999580867, 4, 5, 7, 4};
        for (int what = 0; what < about.length; what++) {
            due("about(" + what + ")", x.about(what), about[what]);
        }
        due("about(8)", x.about(8), NONE);
        due("about(-1)", x.about(-1), NONE);
        due("units", told("kind k;ways k (last + belief * year) * 2 / 3;").about(7), 6);
        String ten = "1+1+1+1+1+1+1+1+1+1";
        due("40 units", told("kind k;ways k " + ten + "+" + ten + "+" + ten + "*" + ten + ";").about(7), 40);
    }
}
