/** The edges that ==== 1. and promises 1 to 5 name: one method for each sentence. */
public final class TextEdgeTest {
    private static final int NONE = Due.NONE;
    private static final String[] OWN = {"kind", "person", "earns", "paper", "signs", "near", "ways", "depth", "wrong",
        "teach", "found", "clean", "heard", "letter", "belief", "last", "year"};
    private static final String ONE = "kind k;person a kind k earns 9 paper 0 signs 0;";
    private static final String TEN = "1+1+1+1+1+1+1+1+1+1";

    public static void main(String[] args) {
        emptyAtFirst();
        bytesOfALand();
        bytesOfTokens();
        lettersOfWords();
        digitsOfNumbers();
        blanks();
        asLongAsCanBe();
        letterBehindNumber();
        ownWords();
        otherWords();
        fourKinds();
        sixteenPersons();
        earns();
        paper();
        signs();
        neighboursToldAhead();
        neighboursOnce();
        neighboursEitherWay();
        numberedAsTold();
        waysToldAhead();
        waysOnce();
        withoutWays();
        fortyUnits();
        divisorsAreUnits();
        sixOthers();
        divisorFromOne();
        depthAndWrong();
        teach();
        once();
        firstFaultByPlace();
        faultAtTheEnd();
        leastFaultAtOnePlace();
        cantStand();
        toldAlready();
        cantBe();
        noneOfTheSort();
        feedFull();
        feedHighestFirst();
        endOutside();
        endCuts();
        landEmptiesTape();
        landEmptiesBoxes();
        landRefused();
        faultOfLatest();
        Due.finish();
    }

    private static void due(String call, int got, int want) {
        Due.due(call, got, want);
    }

    /** The place is where the text has a ^, which is left out. */
    private static void fault(int fault, String text) {
        LotHouse x = new LotHouse();
        due("land of " + text, Texts.land(x, text.replace("^", "")), NONE);
        due("fault(0) of " + text, x.fault(0), fault);
        due("fault(1) of " + text, x.fault(1), text.indexOf('^'));
    }

    private static void well(int persons, String text) {
        LotHouse x = new LotHouse();
        due("land of " + text, Texts.land(x, text), persons);
        due("fault(0) of " + text, x.fault(0), 0);
        due("fault(1) of " + text, x.fault(1), NONE);
    }

    private static void emptyAtFirst() {
        Due.sentence("A LAND is a text .. (empty at first); an empty LAND");
        LotHouse x = new LotHouse();
        Due.same("a new object", Due.all(x), "0 0 0 1 0 10 0 0 0 -1 -1");
        due("a YEAR of nobody", x.year(true, 0, 0, 0), 0);
        due("a YEAR of nobody, one SMELT", x.year(true, 1, 0, 0), NONE);
        well(0, "");
        well(0, " ");
        well(0, "\n");
    }

    private static void bytesOfALand() {
        Due.sentence("A LAND is a text of at most 1,600 bytes");
        well(1, " ".repeat(1600 - ONE.length()) + ONE);
        well(1, ONE + "\n".repeat(1600 - ONE.length()));
        LotHouse x = new LotHouse();
        Texts.feed(x, " ".repeat(1600 - ONE.length()) + ONE);
        due("about(4)", x.about(4), 1600);
        due("land()", x.land(), 1);
        // as many TOKENS as bytes
        fault(2, "^" + ";".repeat(1600));
        fault(2, "^" + "(".repeat(1599) + ".");
        fault(2, "kind k;ways k (((((((1)))))))^" + ")".repeat(1571));
        fault(2, " ".repeat(1599) + "^;");
        fault(1, " ".repeat(1599) + "^.");
        fault(2, " ".repeat(1599) + "^7");
        fault(2, " ".repeat(1599) + "^k");
    }

    private static void bytesOfTokens() {
        Due.sentence("words (a .. z ..), N .., signs ; ( ) + - * /; blanks (32, 10)");
        for (int b = 0; b < 256; b++) {
            LotHouse x = new LotHouse();
            boolean blank = b == 32 || b == 10;
            boolean token = b >= 'a' && b <= 'z' || b >= '0' && b <= '9' || ";()+-*/".indexOf(b) >= 0;
            due("land with byte " + b, Texts.land(x, "kind a;" + (char) b), blank ? 0 : NONE);
            due("fault(0) of byte " + b, x.fault(0), blank ? 0 : token ? 2 : 1);
            due("fault(1) of byte " + b, x.fault(1), blank ? NONE : 7);
            // inside a word: what parts it is a blank, a sign, a digit, or no TOKEN
            Texts.land(x, "kind a" + (char) b + "a;");
            boolean letter = b >= 'a' && b <= 'z';
            due("fault(0) of byte " + b + " in a word", x.fault(0), letter ? 0 : !token && !blank || b >= '0' && b <= '9' ? 1 : 2);
        }
    }

    private static void lettersOfWords() {
        Due.sentence("words (a .. z, 8 at most)");
        well(0, "kind a;kind z;kind aa;kind zz;");
        well(0, "kind abcdefgh;");
        well(0, "kind abcdefgh;kind abcdefgi;kind bbcdefgh;kind abcdefg;");
        well(0, "kind zzzzzzzz;");
        for (char c = 'a'; c <= 'z'; c++) {
            String letter = Character.toString(c);
            well(0, "kind " + letter + ";kind " + letter.repeat(2) + ";kind " + letter.repeat(7) + ";kind " + letter.repeat(8) + ";");
        }
        fault(3, "kind zzzzzzzz;kind ^zzzzzzzz;");
        fault(1, "kind ^abcdefghi;");
        fault(1, "kind ^zzzzzzzzz;");
        fault(1, "^kindabcde a;");
        fault(1, "kind ^" + "a".repeat(13) + "kind;");
        fault(1, "^" + "a".repeat(1600));
        fault(2, "^kindabcd a;");
    }

    private static void digitsOfNumbers() {
        Due.sentence("N (1 to 4 digits)");
        well(1, "kind k;person a kind k earns 0999 paper 0000 signs 0015;");
        well(0, "kind k;ways k 9999 / 9999;");
        fault(1, "kind k;ways k ^10000;");
        fault(1, "kind k;ways k 1 / ^00001;");
        fault(1, "kind k;person a kind k earns ^00009 paper 0 signs 0;");
        fault(1, "kind k;ways k ^" + "0".repeat(1000) + "1;");
        fault(2, "kind k;ways k 1234 ^5;");
        due("ways 0012", Due.told("kind k;" + Due.person("a", "k", 99, 0, 0) + ";ways k 0012;").person(0, 5), 12);
    }

    private static void blanks() {
        Due.sentence("blanks (32, 10) part them or not");
        well(1, "\n\nkind\n\nk \n ;\nperson  a\nkind k earns\n9 paper 0 signs 0\n;\n");
        well(1, "kind k;person a kind k earns9 paper9 signs9;ways k(earns+1)*2/3-4;depth1 wrong1;"
            + "teach found1 clean1 heard1 letter1;");
        fault(1, "kind^\tk;");
        fault(1, "kind k;^\r\n");
    }

    private static void asLongAsCanBe() {
        Due.sentence("each is as long as can be");
        fault(2, "^kindk;");
        fault(2, "kind k;ways k ^earnsx;");
        well(0, "kind kinda;kind kin;");
        fault(2, "kind k;^persona kind k earns 9 paper 0 signs 0;");
        due("ways 12", Due.told("kind k;" + Due.person("a", "k", 99, 0, 0) + ";ways k 12;").person(0, 5), 12);
    }

    private static void letterBehindNumber() {
        Due.sentence("no letter directly behind an N");
        fault(1, "kind k;person a kind k earns ^9paper 0 signs 0;");
        fault(1, "kind k;ways k ^1a;");
        fault(1, "kind k;ways k ^9999z;");
        fault(1, "^0a");
        well(0, "kind k;ways k 1+last;");
        well(0, "kind k;ways k last*2\n;");
    }

    private static void ownWords() {
        Due.sentence("Words that stand for themselves here are no NAMES");
        for (String own : OWN) {
            fault(2, "kind ^" + own + ";");
            fault(2, "kind k;person ^" + own + " kind k earns 9 paper 0 signs 0;");
            fault(2, "kind k;person a kind ^" + own + " earns 9 paper 0 signs 0;");
            fault(2, ONE + "person b kind k earns 9 paper 0 signs 0 near ^" + own + ";");
            fault(2, ONE + "person b kind k earns 9 paper 0 signs 0 near a ^" + own + ";");
            fault(2, "kind k;ways ^" + own + " 1;");
        }
    }

    private static void otherWords() {
        Due.sentence("Words that stand for themselves here: no others");
        for (String other : new String[] {"line", "land", "e", "term", "unit", "n", "name", "kinds", "persons", "years",
            "letters", "match", "smelt", "lot", "look", "earn", "lasts", "foun", "founds", "beliefs", "bytes", "end"}) {
            well(1, "kind " + other + ";person " + other + " kind " + other + " earns 9 paper 0 signs 0;ways " + other + " 1;");
        }
    }

    private static void fourKinds() {
        Due.sentence("At most 4 KINDS; a 5th KIND: at the line's first word");
        due("about(0)", Due.told("kind a;kind b;kind c;kind d;").about(0), 4);
        fault(2, "kind a;kind b;kind c;kind d; ^kind e;");
        fault(2, "kind a;kind b;kind c;kind d;^kind");
        fault(2, "kind a;kind b;kind c;kind d;^kind a;");
        fault(2, "kind a;kind b;kind c;kind d;^kind 1");
    }

    private static void sixteenPersons() {
        Due.sentence("At most .. 16 PERSONS; a 17th PERSON: at the line's first word");
        well(16, Due.crowd(16, 9));
        fault(2, Due.crowd(16, 9) + " ^person q kind k earns 9 paper 0 signs 0;");
        fault(2, Due.crowd(16, 9) + "^person");
        fault(2, Due.crowd(16, 9) + "^person a kind k");
        well(16, Due.crowd(16, 9) + "ways k 1;");
        well(16, Due.chain(16));
    }

    private static void earns() {
        Due.sentence("earns 0 .. 999");
        well(1, "kind k;" + Due.person("a", "k", 0, 0, 0) + ";");
        well(1, "kind k;" + Due.person("a", "k", 999, 0, 0) + ";");
        fault(4, "kind k;person a kind k earns ^1000 paper 0 signs 0;");
        fault(4, "kind k;person a kind k earns ^9999 paper 0 signs 0;");
        fault(2, "kind k;person a kind k earns ^-1 paper 0 signs 0;");
    }

    private static void paper() {
        Due.sentence("paper 0 .. earns");
        well(1, "kind k;" + Due.person("a", "k", 0, 0, 0) + ";");
        well(1, "kind k;" + Due.person("a", "k", 999, 999, 0) + ";");
        fault(4, "kind k;person a kind k earns 0 paper ^1 signs 0;");
        fault(4, "kind k;person a kind k earns 998 paper ^999 signs 0;");
        // the earns of one's own, not of the one ahead
        fault(4, "kind k;" + Due.person("a", "k", 999, 0, 0) + ";person b kind k earns 5 paper ^6 signs 0;");
    }

    private static void signs() {
        Due.sentence("signs 0 .. 15 as bits");
        well(2, "kind k;" + Due.person("a", "k", 9, 0, 0) + ";" + Due.person("b", "k", 9, 0, 15) + ";");
        fault(4, "kind k;person a kind k earns 9 paper 0 signs ^16;");
        LotHouse x = Due.told("kind k;" + Due.person("a", "k", 10, 0, 8) + ";" + Due.person("b", "k", 10, 0, 7) + ";"
            + Due.person("c", "k", 10, 0, 15) + ";ways k 0;");
        x.year(false, 1, 0, 0);
        due("score(0)", x.score(0), 10000);
        due("score(1)", x.score(1), 0);
        due("score(2)", x.score(2), 10000);
        x.year(false, 0, 0, 0);
        x.seed(Due.seedFor(3, 1));
        x.year(false, 0, 1, 0);
        due("score(1)", x.score(1), 30000);
        due("score(2)", x.score(2), 40000);
    }

    private static void neighboursToldAhead() {
        Due.sentence("near: neighbours, told ahead");
        fault(5, "kind k;person a kind k earns 9 paper 0 signs 0 near ^b;person b kind k earns 9 paper 0 signs 0;");
        fault(5, "kind k;person a kind k earns 9 paper 0 signs 0 near ^a;");
        fault(5, ONE + "person b kind k earns 9 paper 0 signs 0 near a ^b;");
        fault(5, ONE + "person b kind k earns 9 paper 0 signs 0 near ^k;");
        StringBuilder text = new StringBuilder(Due.crowd(15, 9) + "person p kind k earns 9 paper 0 signs 0 near");
        for (char c = 'a'; c < 'p'; c++) {
            text.append(' ').append(c);
        }
        LotHouse x = Due.told(text + ";");
        for (int p = 0; p < 15; p++) {
            due("hears(15, " + p + ")", x.hears(15, p), 1);
            due("hears(0, " + p + ")", x.hears(0, p), p == 0 ? 0 : 2);
        }
        fault(3, text + " ^a;");
    }

    private static void neighboursOnce() {
        Due.sentence("neighbours .. each once; a neighbour twice");
        fault(3, ONE + "person b kind k earns 9 paper 0 signs 0 near a ^a;");
        fault(3, Due.crowd(2, 9) + "person c kind k earns 9 paper 0 signs 0 near a b ^a;");
        // another one may have it, too
        well(3, ONE + Due.person("b", "k", 9, 0, 0) + " near a;" + Due.person("c", "k", 9, 0, 0) + " near a;");
    }

    private static void neighboursEitherWay() {
        Due.sentence("neighbours .. either way");
        LotHouse x = Due.told(Due.chain(3));
        due("hears(0, 1)", x.hears(0, 1), 1);
        due("hears(1, 0)", x.hears(1, 0), 1);
        due("hears(0, 2)", x.hears(0, 2), 2);
        due("hears(2, 0)", x.hears(2, 0), 2);
        Texts.land(x, Due.crowd(3, 9));
        due("hears(0, 1) in the next LAND", x.hears(0, 1), 99);
    }

    private static void numberedAsTold() {
        Due.sentence("numbered as told");
        LotHouse x = Due.told("kind z;kind y;" + Due.person("q", "y", 1, 0, 0) + ";" + Due.person("p", "z", 2, 0, 0)
            + ";" + Due.person("a", "y", 3, 0, 0) + ";");
        for (int p = 0; p < 3; p++) {
            due("person(" + p + ", 5)", x.person(p, 5), p + 1);
        }
        due("kind(0, 3)", x.kind(0, 3), 2);
        due("kind(1, 3)", x.kind(1, 3), 4);
    }

    private static void waysToldAhead() {
        Due.sentence("ways of a KIND told ahead");
        fault(5, "ways ^k 1;kind k;");
        fault(5, "kind k;ways ^l 1;");
        fault(5, ONE + "ways ^a 1;");
        // ahead of its PERSONS or behind them
        due("person(0, 5)", Due.told("kind k;ways k 7;" + Due.person("a", "k", 9, 0, 0) + ";").person(0, 5), 7);
        due("person(0, 5)", Due.told("kind k;" + Due.person("a", "k", 9, 0, 0) + ";ways k 7;").person(0, 5), 7);
    }

    private static void waysOnce() {
        Due.sentence("ways of a KIND .. each once; a KIND's ways told already");
        fault(3, "kind k;ways k 1;ways ^k 1;");
        fault(3, "kind k;kind l;ways k 1;ways l 1;ways ^k ");
        LotHouse x = Due.told("kind a;kind b;kind c;kind d;ways d 4;ways c 3;ways b 2;ways a 1;"
            + Due.person("a", "a", 9, 0, 0) + ";" + Due.person("b", "b", 9, 0, 0) + ";" + Due.person("c", "c", 9, 0, 0)
            + ";" + Due.person("d", "d", 9, 0, 0) + ";");
        for (int p = 0; p < 4; p++) {
            due("person(" + p + ", 5)", x.person(p, 5), p + 1);
        }
        due("land() of the same once more", Texts.land(x, "kind k;ways k 1;"), 0);
        due("land() of the same once more", Texts.land(x, "kind k;ways k 1;"), 0);
    }

    private static void withoutWays() {
        Due.sentence("(without: earns)");
        LotHouse x = Due.told("kind k;kind l;ways l 0;" + Due.person("a", "k", 999, 5, 0) + ";"
            + Due.person("b", "l", 999, 5, 0) + ";");
        due("person(0, 5)", x.person(0, 5), 999);
        due("person(1, 5)", x.person(1, 5), 0);
        Texts.land(x, "kind k;ways k 3;" + Due.person("a", "k", 999, 5, 0) + ";");
        Texts.land(x, "kind k;" + Due.person("a", "k", 999, 5, 0) + ";");
        due("person(0, 5), the LAND ahead had ways", x.person(0, 5), 999);
    }

    private static void fortyUnits() {
        Due.sentence("40 units in all; a 41st unit: there");
        String thirty = TEN + "+" + TEN + "+" + TEN;
        due("about(7)", Due.told("kind k;ways k " + thirty + "+" + TEN + ";").about(7), 40);
        due("about(7)", Due.told("kind k;ways k " + thirty + "+(((((((1+1)))))))+1;").about(7), 40);
        due("about(7)", Due.told("kind a;kind b;kind c;kind d;ways a " + TEN + ";ways b " + TEN + ";ways c " + TEN
            + ";ways d " + TEN + ";").about(7), 40);
        due("40 units that are summed", Due.told(Due.crowd(1, 99) + "ways k " + thirty + "+" + TEN + ";").person(0, 5), 40);
        for (String unit : new String[] {"1", "earns", "paper", "belief", "last", "year", "(1)"}) {
            fault(2, "kind k;ways k " + thirty + "+" + TEN + "+^" + unit + ";");
            fault(2, "kind k;ways k " + thirty + "*" + TEN + "*^" + unit + ";");
            fault(2, "kind a;kind b;kind c;kind d;ways a " + TEN + ";ways b " + TEN + ";ways c " + TEN + ";ways d " + TEN
                + "-^" + unit + ";");
        }
        fault(2, "kind k;kind l;ways k " + thirty + "+" + TEN + ";ways l ^1;");
        fault(2, "kind k;ways k " + thirty + "+1+1+1+1+1+1+1+1+1+(^1);");
        // what a refused text counted is gone
        LotHouse x = new LotHouse();
        due("land() of 41 units", Texts.land(x, "kind k;ways k " + thirty + "+" + TEN + "+1;"), NONE);
        due("about(7)", x.about(7), 0);
        due("land() of 40 units", Texts.land(x, "kind k;ways k " + thirty + "+" + TEN + ";"), 0);
        due("about(7)", x.about(7), 40);
        due("land() of one unit", Texts.land(x, "kind k;ways k 1;"), 0);
        due("about(7)", x.about(7), 1);
        for (int turn = 0; turn < 4; turn++) {
            due("land() of 40 units", Texts.land(x, Due.crowd(1, 99) + "ways k " + thirty + "+" + TEN + ";"), 1);
            due("person(0, 5)", x.person(0, 5), 40);
        }
    }

    private static void divisorsAreUnits() {
        Due.sentence("the N of each / N counted as one, too; a 41st .. N behind a /: there");
        due("about(7)", Due.told("kind k;ways k 1/2/3;").about(7), 3);
        due("about(7)", Due.told("kind k;ways k 1" + "/1".repeat(39) + ";").about(7), 40);
        fault(2, "kind k;ways k 1" + "/1".repeat(39) + "/^1;");
        fault(2, "kind k;ways k 1" + "/1".repeat(39) + "+^1;");
        fault(2, "kind k;ways k " + TEN + "+" + TEN + "+" + TEN + "+" + TEN + "/^2;");
    }

    private static void sixOthers() {
        Due.sentence("a unit ( e ) within 6 others at most; a ( within 7 others: there");
        due("7 deep", Due.told(Due.crowd(1, 99) + "ways k (((((((7)))))));").person(0, 5), 7);
        due("7 deep, twice", Due.told(Due.crowd(1, 99) + "ways k (((((((7)))))))*(((((((2)))))));").person(0, 5), 14);
        due("7 deep, behind others inside",
            Due.told(Due.crowd(1, 99) + "ways k ((((((1+(7))-(2))*(3))))+(4));").person(0, 5), 22);
        fault(2, "kind k;ways k (((((((^(7))))))));");
        fault(2, "kind k;ways k (((((((1)+1)+1)+1)+1)+1)+((((((^(7))))))));");
        fault(2, "kind k;ways k (((((((1*^(7))))))));");
        fault(2, "kind k;ways k (((((((^" + "(".repeat(1579));
    }

    private static void divisorFromOne() {
        Due.sentence("/ N from 1 on");
        fault(4, "kind k;ways k 1/^0;");
        fault(4, "kind k;ways k 1/2/^0000;");
        fault(4, "kind k;ways k (1+2)*3/^0");
        due("ways 9 / 1", Due.told(Due.crowd(1, 99) + "ways k 9 / 1;").person(0, 5), 9);
        due("ways 9 / 9999", Due.told(Due.crowd(1, 99) + "ways k 9 / 9999;").person(0, 5), 0);
        well(0, "kind k;ways k 0*0+0;");
    }

    private static void depthAndWrong() {
        Due.sentence("depth 0 .. 10, wrong 0 .. 10, once (10, 0)");
        LotHouse x = Due.told("kind k;");
        due("about(5)", x.about(5), 10);
        due("about(6)", x.about(6), 0);
        for (int n : new int[] {0, 1, 10}) {
            x = Due.told("depth " + n + " wrong " + (10 - n) + ";");
            due("about(5)", x.about(5), n);
            due("about(6)", x.about(6), 10 - n);
        }
        fault(4, "depth ^11 wrong 0;");
        fault(4, "depth 10 wrong ^11;");
        fault(4, "depth ^9999 wrong 99;");
        due("land()", Texts.land(x, "kind k;"), 0);
        due("about(5)", x.about(5), 10);
        due("about(6)", x.about(6), 0);
    }

    private static void teach() {
        Due.sentence("teach 0 .. 9 each, once (1, 1, 0, 1)");
        well(0, "teach found 0 clean 0 heard 0 letter 0;");
        well(0, "teach found 9 clean 9 heard 9 letter 9;");
        fault(4, "teach found ^10 clean 0 heard 0 letter 0;");
        fault(4, "teach found 0 clean ^10 heard 0 letter 0;");
        fault(4, "teach found 0 clean 0 heard ^10 letter 0;");
        fault(4, "teach found 0 clean 0 heard 0 letter ^10;");
        String pair = "kind k;kind l;" + Due.person("a", "k", 9, 0, 0) + ";" + Due.person("b", "l", 9, 0, 0) + " near a;"
            + Due.person("c", "l", 9, 0, 0) + ";ways k 0;";
        LotHouse x = Due.told(pair + "teach found 9 clean 9 heard 9 letter 9;");
        x.year(false, 1, 0, 2);
        due("person(2, 0)", x.person(2, 0), 9);
        Texts.land(x, pair);
        // a is found, b is clean, c gets the LETTER; b hears nothing
        x.year(false, 2, 0, 1);
        due("person(0, 0)", x.person(0, 0), 6);
        due("person(1, 0)", x.person(1, 0), 4);
        due("person(2, 0)", x.person(2, 0), 6);
    }

    private static void once() {
        Due.sentence("depth or teach a second time: at the line's first word");
        fault(2, "depth 1 wrong 1; ^depth 1 wrong 1;");
        fault(2, "depth 10 wrong 0;^depth 10 wrong 0;");
        fault(2, "depth 1 wrong 1;^depth");
        fault(2, "teach found 1 clean 1 heard 0 letter 1; ^teach found 1 clean 1 heard 0 letter 1;");
        fault(2, "teach found 0 clean 0 heard 0 letter 0;kind k;^teach");
        LotHouse x = Due.told("depth 1 wrong 1;teach found 1 clean 1 heard 0 letter 1;");
        due("land() once more", Texts.land(x, "depth 2 wrong 2;teach found 1 clean 1 heard 0 letter 1;"), 0);
        due("about(5)", x.about(5), 2);
    }

    private static void firstFaultByPlace() {
        Due.sentence("FAULTS, the first by its place (bytes from 0 ..)");
        fault(2, "^; A");
        fault(3, "kind a;kind ^a;.");
        fault(4, "depth ^11 wrong 11 abcdefghi");
        fault(5, "ways ^k 1/0;");
        fault(2, "kind a ^kind a;kind a;12x");
        fault(1, "^.kind a;kind a;");
        fault(2, "kind a;kind b;kind c;kind d;^kind A;");
    }

    private static void faultAtTheEnd() {
        Due.sentence("(.. the end: the text's length)");
        fault(2, "kind^");
        fault(2, "kind a^");
        fault(2, "kind a  \n ^");
        fault(2, "kind k;person a kind k earns 9 paper 0 signs 0 near ^");
        fault(2, "kind k;ways k 1+^");
        fault(2, "kind k;ways k (1^");
        fault(2, "depth 1 wrong 1^");
        fault(2, "kind" + " ".repeat(1596) + "^");
    }

    private static void leastFaultAtOnePlace() {
        Due.sentence("at one place the least");
        // no TOKEN ahead of what can't stand there, or can't be
        fault(1, "^A");
        fault(1, "kind ^B;");
        fault(1, "kind k;person a kind k earns ^10000 paper 0 signs 0;");
        fault(1, "depth ^11x wrong 0;");
        fault(1, "kind k;ways k 1/^0x;");
        // what can't stand there ahead of a number that can't be
        fault(2, "kind k;ways k 1" + "/1".repeat(39) + "/^0;");
        // no TOKEN ahead of a 41st unit
        fault(1, "kind k;ways k 1" + "/1".repeat(39) + "/^0a;");
        fault(1, "kind k;ways k 1" + "/1".repeat(39) + "+^A;");
    }

    private static void cantStand() {
        Due.sentence("2 one that can't stand there");
        String unit = "5 earns paper belief last year (";
        // what stands ahead, and which TOKENS can stand there (zz is a NAME)
        String[][] places = {{"", "kind person ways depth teach END"}, {"kind", "zz"}, {"kind k", ";"},
            {"kind k;person", "zz"}, {"kind k;person a", "kind"}, {"kind k;person a kind", "zz"},
            {"kind k;person a kind k", "earns"}, {"kind k;person a kind k earns", "5"},
            {"kind k;person a kind k earns 9", "paper"}, {"kind k;person a kind k earns 9 paper", "5"},
            {"kind k;person a kind k earns 9 paper 9", "signs"}, {"kind k;person a kind k earns 9 paper 9 signs", "5"},
            {"kind k;person a kind k earns 9 paper 9 signs 9", "near ;"},
            {ONE + "person b kind k earns 9 paper 9 signs 9 near", "zz"},
            {ONE + "person b kind k earns 9 paper 9 signs 9 near a", "zz ;"},
            {ONE, "kind person ways depth teach END"}, {ONE + "ways", "zz"}, {ONE + "ways k", unit},
            {ONE + "ways k 1", "+ - * / ;"}, {ONE + "ways k last", "+ - * / ;"}, {ONE + "ways k 1 +", unit},
            {ONE + "ways k 1 -", unit}, {ONE + "ways k 1 *", unit}, {ONE + "ways k 1 /", "5"},
            {ONE + "ways k 1 / 2", "+ - * / ;"}, {ONE + "ways k (", unit}, {ONE + "ways k ( 1", "+ - * / )"},
            {ONE + "ways k ( 1 / 2", "+ - * / )"}, {ONE + "ways k ( 1 + 2", "+ - * / )"},
            {ONE + "ways k ( 1 )", "+ - * / ;"}, {ONE + "ways k ( ( 1 )", "+ - * / )"}, {"depth", "5"},
            {"depth 5", "wrong"}, {"depth 5 wrong", "5"}, {"depth 5 wrong 5", ";"},
            {"depth 5 wrong 5;", "kind person ways teach END"}, {"teach", "found"}, {"teach found", "5"},
            {"teach found 5", "clean"}, {"teach found 5 clean", "5"}, {"teach found 5 clean 5", "heard"},
            {"teach found 5 clean 5 heard", "5"}, {"teach found 5 clean 5 heard 5", "letter"},
            {"teach found 5 clean 5 heard 5 letter", "5"}, {"teach found 5 clean 5 heard 5 letter 5", ";"}};
        String[] all = (String.join(" ", OWN) + " zz 5 ; ( ) + - * / END").split(" ");
        for (String[] place : places) {
            for (String token : all) {
                if (!(" " + place[1] + " ").contains(" " + token + " ")) {
                    fault(2, place[0] + " ^" + token.replace("END", ""));
                }
            }
        }
        fault(2, "kind k;ways k 1;^;");
        fault(2, ONE + "person b kind k earns 9 paper 0 signs 0 near a ^1;");
        fault(2, ONE + "person b kind k earns 9 paper 0 signs 0 near^;");
        fault(2, "kind k;ways k 2/^last;");
        fault(2, "kind k;ways k 2/^(2);");
        fault(2, "kind k;ways k (^);");
    }

    private static void toldAlready() {
        Due.sentence("3 a NAME told already (of its sort)");
        fault(3, "kind a;kind b;kind ^a;");
        fault(3, "kind a;kind ^a");
        fault(3, Due.crowd(15, 9) + "person ^a kind k earns 9 paper 0 signs 0;");
        fault(3, Due.crowd(15, 9) + "person ^o");
        well(1, "kind a;" + Due.person("a", "a", 9, 0, 0) + ";kind b;");
        well(1, "kind a;" + Due.person("b", "a", 9, 0, 0) + ";kind b;");
        LotHouse x = Due.told("kind a;kind b;");
        due("land() with the NAMES of the LAND ahead", Texts.land(x, "kind a;kind b;"), 0);
    }

    private static void cantBe() {
        Due.sentence("4 a number that can't be");
        fault(4, "kind k;person a kind k earns ^1000");
        fault(4, "kind k;person a kind k earns 5 paper ^6");
        fault(4, "kind k;person a kind k earns 5 paper 5 signs ^9999");
        fault(4, "depth ^11");
        fault(4, "depth 1 wrong ^11");
        fault(4, "teach found ^9999");
        fault(4, "kind k;ways k 9999/^0");
    }

    private static void noneOfTheSort() {
        Due.sentence("5 a NAME that is none of the sort that must stand there (told ahead)");
        fault(5, "person a kind ^k earns 9 paper 0 signs 0;kind k;");
        fault(5, "kind k;" + Due.person("a", "k", 9, 0, 0) + ";person b kind ^a earns 9 paper 0 signs 0;");
        fault(5, "kind k;person b kind ^b earns 9 paper 0 signs 0;");
        fault(5, ONE + "ways ^a 1;");
        fault(5, ONE + "person b kind k earns 9 paper 0 signs 0 near a ^k;");
        LotHouse x = Due.told(ONE);
        due("land() with a NAME of the LAND ahead", Texts.land(x, "ways k 1;"), NONE);
        due("fault(0)", x.fault(0), 5);
        due("land() with a neighbour of the LAND ahead",
            Texts.land(x, "kind l;person b kind l earns 9 paper 0 signs 0 near a;"), NONE);
        due("fault(0)", x.fault(0), 5);
    }

    private static void feedFull() {
        Due.sentence("NONE, and nothing comes, if there would be more than 1,600");
        for (int cut = 0; cut <= 20; cut++) {
            LotHouse x = new LotHouse();
            Texts.feed(x, " ".repeat(1600));
            due("about(4)", x.about(4), 1600);
            x.end(1600 - cut);
            due("feed on " + (1600 - cut), x.feed(0x2e2e2e2e, 0, 0, 0, 0), cut == 20 ? 1600 : NONE);
            due("about(4)", x.about(4), cut == 20 ? 1600 : 1600 - cut);
            due("land()", x.land(), cut == 20 ? NONE : 0);
            due("feed behind land()", x.feed(0, 0, 0, 0, 0), cut == 20 ? NONE : 20);
        }
    }

    private static void feedHighestFirst() {
        Due.sentence("Twenty bytes come behind those on the TAPE, of each number the highest first");
        LotHouse x = new LotHouse();
        due("feed", x.feed(0x6b696e64, 0x20616263, 0x64656667, 0x683b6b69, 0x6e642062), 20);
        due("feed", x.feed(0x3b202020, 0x20202020, 0x20202020, 0x20202020, 0x2020202e), 40);
        due("land()", x.land(), NONE);
        due("fault(1)", x.fault(1), 39);
        due("end(39)", x.end(39), 39);
        due("land()", x.land(), 0);
        due("about(0)", x.about(0), 2);
        // bytes above 127 in each place are no TOKEN there, whatever stands behind
        for (int i = 0; i < 4; i++) {
            x = new LotHouse();
            x.feed(0x20202020, 0x20202020 | 0x80 << 24 - 8 * i, 0x20202020, 0x20202020, 0x20202020);
            due("land()", x.land(), NONE);
            due("fault(0)", x.fault(0), 1);
            due("fault(1)", x.fault(1), 4 + i);
        }
    }

    private static void endOutside() {
        Due.sentence("NONE, doing nothing, if it has not so many, or n is below 0");
        LotHouse x = new LotHouse();
        due("end(0) of none", x.end(0), 0);
        due("end(1) of none", x.end(1), NONE);
        Texts.feed(x, ONE);
        int length = ONE.length();
        for (int n : new int[] {length + 1, 1600, 1601, -1, Integer.MAX_VALUE, Integer.MIN_VALUE}) {
            due("end(" + n + ")", x.end(n), NONE);
            due("about(4)", x.about(4), length);
        }
        due("end of all", x.end(length), length);
        due("end of one less", x.end(length - 1), length - 1);
        due("end of all, cut before", x.end(length), NONE);
        due("land()", x.land(), NONE);
        due("end(0)", x.end(0), 0);
        due("about(4)", x.about(4), 0);
        due("land()", x.land(), 0);
    }

    private static void endCuts() {
        Due.sentence("The TAPE has its first n bytes: n");
        // what was cut off is no part of a TOKEN: neither a letter nor a digit behind the end
        LotHouse x = new LotHouse();
        Texts.feed(x, "kind k;ways k 12x");
        due("end(16)", x.end(16), 16);
        due("land()", x.land(), NONE);
        due("fault(0)", x.fault(0), 2);
        due("fault(1)", x.fault(1), 16);
        x.end(0);
        Texts.feed(x, "kind k;ways k 12345");
        due("end(18)", x.end(18), 18);
        due("land()", x.land(), NONE);
        due("fault(1)", x.fault(1), 18);
        x.end(0);
        Texts.feed(x, "kind abcdefgh;kind abcdefghi");
        due("end(26)", x.end(26), 26);
        due("land()", x.land(), NONE);
        due("fault(1)", x.fault(1), 26);
        // what comes then stands directly behind the end
        due("end(10)", x.end(10), 10);
        Texts.feed(x, ";");
        due("land()", x.land(), 0);
        due("about(0)", x.about(0), 1);
    }

    private static void landEmptiesTape() {
        Due.sentence("The TAPE (empty then) is the LAND (no YEARS .. then; w stays)");
        LotHouse x = Due.told("kind k;person a kind k earns 90 paper 10 signs 15;ways k 3;depth 5 wrong 10;");
        x.seed(77);
        x.year(true, 1, 0, 0);
        int w = x.about(3);
        due("w", w, Due.next(77));
        Due.same("a YEAR", Due.all(x), "1 1 1 " + w + " 0 5 10 1 | 6 3 50 1 1 3 160000 0 / 50 40 40 0 7 1 -1 -1000000 -1 "
            + "; 1 40 40 10 0 0 -1");
        due("land() of the empty TAPE", x.land(), 0);
        Due.same("land()", Due.all(x), "0 0 0 " + w + " 0 10 0 0 0 -1 -1");
        due("land()", Texts.land(x, ONE.replace("signs 0", "signs 15")), 1);
        Due.same("land()", Due.all(x), "1 1 0 " + w + " 0 10 0 0 | 5 0 0 0 0 9 0 0 ; 0 0 9 0 1 0 -1");
    }

    private static void landEmptiesBoxes() {
        Due.sentence("BOXES are empty then");
        LotHouse x = Due.told(ONE);
        for (int box = 0; box < 3; box++) {
            due("image(" + box + ")", x.image(box), 0);
        }
        due("land()", Texts.land(x, ONE), 1);
        for (int box = 0; box < 3; box++) {
            due("back(" + box + ")", x.back(box), NONE);
        }
    }

    private static void landRefused() {
        Due.sentence("NONE: a FAULT (all stays)");
        String text = "kind k;kind l;" + Due.person("a", "k", 90, 20, 3) + ";" + Due.person("b", "l", 80, 10, 5)
            + " near a;" + Due.person("c", "k", 70, 0, 9) + " near a b;ways k belief * 3 + year;ways l paper;"
            + "depth 7 wrong 4;teach found 2 clean 1 heard 1 letter 2;";
        String[] refused = {"kind z;" + Due.person("y", "z", 5, 5, 5) + ";ways z 1;depth 1 wrong 1;"
            + "teach found 9 clean 9 heard 9 letter 9;.", "kind", "kind z;kind z;", "depth 11 wrong 0;", "ways k 1;"};
        for (String bad : refused) {
            LotHouse x = Due.told(text);
            x.image(0);
            x.year(true, 1, 0, 1);
            x.year(false, 0, 1, 1);
            x.image(2);
            Texts.feed(x, bad);
            String before = Due.all(x);
            due("land of " + bad, x.land(), NONE);
            Due.same("land of " + bad, Due.all(x), before);
            due("hears(0, 2)", x.hears(0, 2), 1);
            due("about(4), the TAPE, too", x.about(4), bad.length());
            due("land of " + bad + " once more", x.land(), NONE);
            due("back(1)", x.back(1), NONE);
            due("back(0)", x.back(0), 0);
            due("year", x.year(false, 0, 0, 0), 16 + 10 + 16);
            due("back(2)", x.back(2), 2);
        }
    }

    private static void faultOfLatest() {
        Due.sentence("Of the latest land() what 0: its FAULT (0), 1: its place (NONE). NONE for another what");
        LotHouse x = new LotHouse();
        int[][] rows = {{0, NONE}, {4, 6}, {0, NONE}, {5, 5}};
        String[] texts = {null, "depth 11 wrong 0;", "kind k;", "ways l 1;"};
        for (int i = 0; i < texts.length; i++) {
            if (texts[i] != null) {
                Texts.land(x, texts[i]);
            }
            due("fault(0)", x.fault(0), rows[i][0]);
            due("fault(1)", x.fault(1), rows[i][1]);
            for (int what : new int[] {-1, 2, Integer.MAX_VALUE, Integer.MIN_VALUE}) {
                due("fault(" + what + ")", x.fault(what), NONE);
            }
        }
        x.year(false, 0, 0, 0);
        x.end(0);
        due("fault(0), no land() since", x.fault(0), 5);
    }
}
