import java.nio.file.Files;
import java.nio.file.Path;

/** The example in README.md: it stands here to the letter, and answers what it says it does. */
public final class ExampleTest {
    private static final String BEGIN = "// the example begins";
    private static final String END = "// the example ends";

    public static void main(String[] args) throws Exception {
        Due.sentence("README.md says how to use the class");
        example();
        standsInReadme();
        Due.finish();
    }

    private static void example() {
        // the example begins
        LotHouse x = new LotHouse();
        Texts.feed(x, "kind w;"
            + "person a kind w earns 100 paper 70 signs 1;"
            + "person b kind w earns 200 paper 20 signs 2 near a;"
            + "ways w earns * belief / 10;"
            + "depth 5 wrong 0; teach found 3 clean 2 heard 1 letter 2;");
        int persons = x.land();               // 2
        int coin = x.year(true, 1, 1, 0);     // 235: with match, 1 smelt, 1 by lot, no letters
        int gap = x.sum(1, 1);                // 65: what all earn less that
        int estimate = x.estimate(1, 0);      // 115: what the lots say was there to be found
        int smelt = x.smelt(0);               // 1: who would be taken first now
        int believes = x.person(1, 0);        // 9
        int worth = x.worth(0);               // 7: one more look at the first person

        int kept = x.image(0);                // 1: so many years are kept in box 0
        int next = x.year(false, 0, 0, 2);    // 270
        int back = x.back(0);                 // 1: as if that year had not been

        Texts.feed(x, "kind paper;");
        int none = x.land();                  // LotHouse.NONE: a fault, all stays
        int fault = x.fault(0);               // 2: a token that can't stand there
        int place = x.fault(1);               // 5: its place in the text
        // the example ends
        Due.due("land()", persons, 2);
        Due.due("year(true, 1, 1, 0)", coin, 235);
        Due.due("sum(1, 1)", gap, 65);
        Due.due("estimate(1, 0)", estimate, 115);
        Due.due("smelt(0)", smelt, 1);
        Due.due("person(1, 0)", believes, 9);
        Due.due("worth(0)", worth, 7);
        Due.due("image(0)", kept, 1);
        Due.due("year(false, 0, 0, 2)", next, 270);
        Due.due("back(0)", back, 1);
        Due.due("land() with a FAULT", none, LotHouse.NONE);
        Due.due("fault(0)", fault, 2);
        Due.due("fault(1)", place, 5);
        Due.due("the LAND stays", x.about(1), 2);
    }

    private static void standsInReadme() throws Exception {
        String source = Files.readString(Path.of("src/test/java/ExampleTest.java"));
        int from = source.indexOf("        " + BEGIN) + BEGIN.length() + 9;
        int to = source.indexOf("        " + END);
        String code = source.substring(from, to).replaceAll("(?m)^ {8}", "");
        boolean stands = Files.readString(Path.of("README.md")).contains("```java\n" + code + "```\n");
        Due.due("README.md with the example", stands ? 1 : 0, 1);
    }
}
