import java.io.IOException;
import java.util.function.Consumer;

/** The sections "Promise 34" to "Promise 66", sentence by sentence, with each edge that they name. */
public final class LaterEdgeTest {
    private static final int MIN = Integer.MIN_VALUE;
    private static final int MAX = Integer.MAX_VALUE;

    /** A HILL without FOLK. */
    private static final String BARE = "hill syllables 2 places 1 hours 3;";
    private static final String TWO = "hill syllables 2 places 2 hours 3;name 0 1;name 1;";
    private static final String THREE = "hill syllables 2 places 1 hours 3;name 0;name 1;name 0 1;";
    /** 0 tells 1, 1 tells 2, 2 tells 3, each in an hour and a place of its own. */
    private static final String CHAIN = "hill syllables 4 places 4 hours 4;name 0;name 1;name 2;name 3;"
        + "goes 2 1 at 0;goes 3 1 at 0;goes 1 1 at 1;goes 3 2 at 1;goes 2 2 at 2;"
        + "says 0 0 0 at 0;says 1 0 0 at 1;says 2 0 0 at 2;";
    private static final String TOLD_TWICE = TWO + "says 0 1 0 at 2;says 0 0 0 at 0;says 1 1 0 at 0;says 0 0 1 at 1;"
        + "says 0 0 1 at 2;";
    private static final String TEAMS = "hill syllables 3 places 1 hours 2;name 0 1 2;name 0;name 1;name 2;"
        + "knows 1 0 0;knows 2 0 1;knows 3 0 2;knows 3 0 1;says 3 0 2 at 1;";
    private static final String CLUES = "hill syllables 3 places 1 hours 1;name 0 1;name 0 2;name 1;name 0 1 2;";
    private static final String ILL = "hill syllables 2 places 1 hours 4;name 0;name 0 1;name 1;";

    private final Sentences s = new Sentences("LaterEdgeTest");

    private LaterEdgeTest() throws IOException {
    }

    public static void main(String[] args) throws IOException {
        LaterEdgeTest test = new LaterEdgeTest();
        test.ringsAndBetrayal();
        test.hushing();
        test.changes();
        test.teams();
        test.giving();
        test.fitting();
        test.guessing();
        test.loving();
        test.children();
        test.mishearing();
        test.drawing();
        test.teachingAndCounting();
        test.images();
        test.rows();
        test.pasting();
        test.s.finish();
    }

    private static HalvedNames made(String text) {
        return Feeder.made(text);
    }

    private static HalvedNames none() {
        return new HalvedNames();
    }

    private static void setRow(HalvedNames x, int slot, int width, long... numbers) {
        x.row(slot, width, numbers.length);
        for (int i = 0; i < numbers.length; i++) {
            x.write(slot, i, numbers[i]);
        }
    }

    private static HalvedNames withRow(String text, long... numbers) {
        HalvedNames x = made(text);
        setRow(x, 0, 3, numbers);
        return x;
    }

    /** What a hill answers, so that two of them can be held against one another. */
    private static String told(HalvedNames x) {
        StringBuilder told = new StringBuilder();
        for (int what = 0; what < 8; what++) {
            told.append(x.count(what)).append(' ');
        }
        for (int folk = 0; folk < x.count(3); folk++) {
            told.append("\nfolk ").append(folk);
            for (int i = 0; i < x.length(folk); i++) {
                told.append(' ').append(x.name(folk, i));
            }
            for (int what = 0; what < 3; what++) {
                told.append(' ').append(x.folk(folk, what));
            }
            for (int hour = 0; hour < x.count(2); hour++) {
                told.append(' ').append(x.place(folk, hour));
            }
            for (int other = 0; other < x.count(3); other++) {
                told.append(' ').append(x.knew(folk, other)).append(' ').append(x.whole(folk, other));
            }
        }
        for (int saying = 0; saying < x.count(4); saying++) {
            told.append("\nsaying");
            for (int what = 0; what < 4; what++) {
                told.append(' ').append(x.saying(saying, what));
            }
            told.append(' ').append(x.heard(saying)).append(' ').append(x.learnt(saying));
        }
        return told.toString();
    }

    /** A call that is refused, or asks alone, leaves the hill as it was. */
    private void leaves(String text, String call, Consumer<HalvedNames> calls) {
        HalvedNames x = made(text);
        calls.accept(x);
        s.due(call + " leaves all else", told(x), told(made(text)));
    }

    // ---- 34 to 36

    private void ringsAndBetrayal() {
        s.promise(34);
        s.says("FOLK that know WHOLE behind all HOURS, one the next one's, round, from itself to itself, as bits.");
        String four = "hill syllables 4 places 1 hours 2;name 0;name 1;name 2;name 3 3;";
        s.due("rings(): none", made(four + "knows 0 1 0;knows 1 2 0;").rings(), 0);
        s.due("rings(): nobody is one's own next", made(four).rings(), 0);
        s.due("rings(): of two", made(four + "knows 0 1 0;knows 1 0 0;knows 2 0 0;").rings(), 3);
        s.due("rings(): of three", made(four + "knows 0 1 0;knows 1 2 0;knows 2 0 0;knows 3 0 0;").rings(), 7);
        s.due("rings(): told in the last hour", made(four + "knows 0 1 0;says 0 0 0 at 1;").rings(), 3);
        s.due("rings(): half a name", made(four + "knows 0 3 0;knows 3 0 0;").rings(), 0);
        s.due("rings(): two rings", made(four + "knows 0 1 0;knows 1 0 0;knows 2 3 0;knows 2 3 1;knows 3 2 0;").rings(), 15);
        s.due("rings(): between two rings", made("hill syllables 5 places 1 hours 1;name 0;name 1;name 2;name 3;name 4;"
            + "knows 0 1 0;knows 1 0 0;knows 1 2 0;knows 2 3 0;knows 3 4 0;knows 4 3 0;").rings(), 27);
        s.due("rings(): of six", made("hill syllables 6 places 1 hours 1;name 0;name 1;name 2;name 3;name 4;name 5;"
            + "knows 0 5 0;knows 5 1 0;knows 1 4 0;knows 4 2 0;knows 2 3 0;knows 3 0 0;").rings(), 63);
        s.due("rings(): of no FOLK", made(BARE).rings(), 0);
        s.says("-2: there is no HILL.");
        s.due("rings()", none().rings(), -2);

        HalvedNames x = made(CHAIN);
        HalvedNames three = made(THREE + "knows 0 1 0;");
        s.promise(35);
        s.says("FOLK (neither of these two) without all whose SAYINGS a FOLK would not know another one's name WHOLE "
            + "in the end, as bits;");
        s.due("betrayed(3, 0)", x.betrayed(3, 0), 6);
        s.due("betrayed(2, 0)", x.betrayed(2, 0), 2);
        s.due("betrayed(1, 0): neither of these two", x.betrayed(1, 0), 0);
        s.due("betrayed(2, 1): by FOLK 0, by SAYING 0", made(THREE + "knows 0 1 0;says 0 1 0 at 0;").betrayed(2, 1), 1);
        String both = "hill syllables 2 places 1 hours 2;name 0 1;name 1;name 1 1;name 0;knows 1 0 0;knows 1 0 1;";
        s.due("betrayed(3, 0): all of his SAYINGS", made(both + "says 1 0 0 at 0;says 1 0 1 at 0;says 1 0 0 at 1;")
            .betrayed(3, 0), 2);
        s.due("betrayed(3, 0): another one says it too", made(both + "says 1 0 0 at 0;says 1 0 1 at 0;says 0 0 0 at 1;"
            + "says 0 0 1 at 1;").betrayed(3, 0), 0);
        s.says("0: it does not anyway.");
        s.due("betrayed(0, 1)", x.betrayed(0, 1), 0);
        s.due("betrayed(3, 0)", made(both + "says 1 0 0 at 0;").betrayed(3, 0), 0);
        s.says("-2: there are none such, one twice.");
        s.twoOfThree("betrayed", three::betrayed);
        s.due("betrayed(0, 1)", none().betrayed(0, 1), -2);

        s.promise(36);
        s.says("SAYINGS without each of which alone he would not, likewise.");
        s.due("traced(3, 0): all three", x.traced(3, 0), 7);
        s.due("traced(2, 0)", x.traced(2, 0), 3);
        s.due("traced(1, 0)", x.traced(1, 0), 1);
        s.due("traced(0, 1): it does not anyway", x.traced(0, 1), 0);
        s.due("traced(1, 0): one syllable is told twice", made(TOLD_TWICE).traced(1, 0), 2);
        s.due("traced(1, 0): known ahead of all", made(TWO + "knows 1 0 0;knows 1 0 1;says 0 0 0 at 0;").traced(1, 0), 0);
        s.due("traced(1, 0): the last of twelve", made(TWO + "says 0 0 0 at 0;".repeat(11) + "says 0 0 1 at 0;")
            .traced(1, 0), 1 << 11);
        s.says("-2 likewise.");
        s.twoOfThree("traced", three::traced);
        s.due("traced(0, 1)", none().traced(0, 1), -2);
    }

    // ---- 37 and 38

    private void hushing() {
        HalvedNames x = made(TOLD_TWICE);
        HalvedNames three = made(THREE + "knows 0 1 0;");
        s.promise(37);
        s.says("HUSH (IV): the fewest SAYINGS HUSHED so that a FOLK does not know it WHOLE in the end (0: he does not).");
        s.due("hush(1, 0)", x.hush(1, 0), 1);
        s.due("hush(3, 0): any of a chain", made(CHAIN).hush(3, 0), 1);
        s.due("hush(1, 0): two of three", made(TWO + "says 0 0 0 at 0;says 0 0 1 at 0;says 0 0 0 at 1;says 0 0 1 at 1;"
            + "says 0 0 0 at 2;").hush(1, 0), 2);
        s.due("hush(1, 0): all six of either", made(TWO + "says 0 0 0 at 0;says 0 0 1 at 0;".repeat(6)).hush(1, 0), 6);
        s.due("hush(1, 0): all twelve", made("hill syllables 2 places 1 hours 3;name 0;name 1;"
            + "says 0 0 0 at 0;".repeat(12)).hush(1, 0), 12);
        s.due("hush(0, 1): one told of its own", x.hush(0, 1), 1);
        s.due("hush(1, 0): he does not", made(TWO + "says 0 0 0 at 0;").hush(1, 0), 0);
        s.due("hush(1, 0): nothing is said", made(TWO).hush(1, 0), 0);
        s.says("NONE: he does, whatever is HUSHED;");
        s.due("hush(1, 0): known ahead of all", made(TWO + "knows 1 0 0;knows 1 0 1;says 0 0 0 at 0;").hush(1, 0), -1);
        s.due("hush(1, 0): and nothing is said", made(TWO + "knows 1 0 0;knows 1 0 1;").hush(1, 0), -1);
        s.says("-2 likewise.");
        s.twoOfThree("hush", (folk, other) -> three.hush(folk, other));
        s.due("hush(0, 1)", none().hush(0, 1), -2);
        leaves(TOLD_TWICE, "hush", y -> y.hush(1, 0));

        s.promise(38);
        s.says("Which, as bits: the least set of so few.");
        s.due("hushed(1, 0)", x.hushed(1, 0), 2);
        s.due("hushed(0, 1)", x.hushed(0, 1), 4);
        s.due("hushed(3, 0): the least of three", made(CHAIN).hushed(3, 0), 1);
        s.due("hushed(1, 0): 3 would be less, but more are fewer", made(TWO + "says 0 0 0 at 0;says 0 0 0 at 0;"
            + "says 0 0 1 at 0;").hushed(1, 0), 4);
        s.due("hushed(1, 0): the second syllable's two", made(TWO + "says 0 0 1 at 0;says 0 0 0 at 0;says 0 0 1 at 1;"
            + "says 0 0 0 at 1;").hushed(1, 0), 5);
        s.due("hushed(1, 0): he does not", made(TWO).hushed(1, 0), 0);
        s.due("hushed(1, 0): the last of twelve", made(TWO + "says 0 0 0 at 0;".repeat(11) + "says 0 0 1 at 0;")
            .hushed(1, 0), 1 << 11);
        s.says("NONE, -2 likewise.");
        s.due("hushed(1, 0): known ahead of all", made(TWO + "knows 1 0 0;knows 1 0 1;").hushed(1, 0), -1);
        s.twoOfThree("hushed", three::hushed);
        s.due("hushed(0, 1)", none().hushed(0, 1), -2);
    }

    // ---- 39 to 41

    private void changes() {
        s.promise(39);
        s.says("A SAYING comes behind all: its number.");
        HalvedNames x = made(TWO + "says 0 0 0 at 0;");
        s.due("say(0, 0, 1, 2)", x.say(0, 0, 1, 2), 1);
        s.due("saying(1, 0)", x.saying(1, 0), 0);
        s.due("saying(1, 1)", x.saying(1, 1), 0);
        s.due("saying(1, 2)", x.saying(1, 2), 1);
        s.due("saying(1, 3)", x.saying(1, 3), 2);
        s.due("whole(1, 0)", x.whole(1, 0), 2);
        s.due("say(0, 0, 1, 0): in an hour ahead", x.say(0, 0, 1, 0), 2);
        s.due("whole(1, 0)", x.whole(1, 0), 0);
        s.due("say(1, 0, 1, 0): behind it in that hour", x.say(1, 0, 1, 0), 3);
        s.due("said(3)", x.said(3), 1);
        s.due("say(0, 1, 0, 0): what he does not know", x.say(0, 1, 0, 0), 4);
        s.due("said(4)", x.said(4), 0);
        s.due("count(4)", x.count(4), 5);
        s.due("count(5): no LINE comes", x.count(5), 4);
        s.says("-3: there are twelve;");
        for (int i = 5; i < 12; i++) {
            s.due("say a further one", x.say(0, 0, 0, 0), i);
        }
        s.due("say a 13th", x.say(0, 0, 0, 0), -3);
        s.due("count(4)", x.count(4), 12);
        leaves(TWO + "says 0 0 0 at 0;".repeat(12), "say a 13th", y -> y.say(0, 0, 1, 0));
        x.unsay();
        s.due("say a 12th again", x.say(0, 0, 0, 0), 11);
        s.says("-2: there are none such.");
        s.bounds("say(folk, 0, 0, 0)", 0, 1, v -> made(TWO).say(v, 0, 0, 0));
        s.bounds("say(0, other, 0, 0)", 0, 1, v -> made(TWO).say(0, v, 0, 0));
        s.bounds("say(0, 0, i, 0)", 0, 1, v -> made(TWO).say(0, 0, v, 0));
        s.bounds("say(0, 1, i, 0)", 0, 0, v -> made(TWO).say(0, 1, v, 0));
        s.bounds("say(0, 0, 0, hour)", 0, 2, v -> made(TWO).say(0, 0, 0, v));
        s.due("say without a hill", none().say(0, 0, 0, 0), -2);
        leaves(TWO, "say(0, 0, 2, 0)", y -> y.say(0, 0, 2, 0));

        s.promise(40);
        s.says("The last SAYING is none any more (told or not): how many there are.");
        x = made(TOLD_TWICE);
        x.say(0, 1, 0, 2);
        s.due("unsay() of what say told", x.unsay(), 5);
        s.due("told as the text tells", told(x), told(made(TOLD_TWICE)));
        s.due("unsay() of what the text told", x.unsay(), 4);
        s.due("saying(4, 0)", x.saying(4, 0), -2);
        s.due("unsay()", x.unsay(), 3);
        s.due("whole(1, 0)", x.whole(1, 0), -1);
        s.due("unsay()", x.unsay(), 2);
        s.due("unsay()", x.unsay(), 1);
        s.due("unsay() of what is not said", x.unsay(), 0);
        s.due("count(5): all LINES stay", x.count(5), 8);
        s.says("-5: there is none;");
        s.due("unsay()", x.unsay(), -5);
        s.due("count(4)", x.count(4), 0);
        s.due("unsay() of no FOLK", made(BARE).unsay(), -5);
        leaves(TWO, "unsay()", HalvedNames::unsay);
        s.says("-2: there is no HILL.");
        s.due("unsay()", none().unsay(), -2);

        s.promise(41);
        s.says("PLACE of a FOLK in an HOUR alone is another one from now on: what it was.");
        x = made(TWO + "goes 1 1 at 1;says 0 0 0 at 1;");
        s.due("move(1, 0, 1)", x.move(1, 0, 1), 1);
        s.due("place(1, 0)", x.place(1, 0), 0);
        s.due("place(1, 1)", x.place(1, 1), 0);
        s.due("place(1, 2): that HOUR alone", x.place(1, 2), 1);
        s.due("heard(0)", x.heard(0), 2);
        s.due("move(1, 1, 1)", x.move(1, 1, 1), 0);
        s.due("heard(0)", x.heard(0), 0);
        s.due("move(1, 1, 1): where he is", x.move(1, 1, 1), 1);
        s.due("move(1, 1, 0)", x.move(1, 1, 0), 0);
        s.due("move(1, 0, 2)", x.move(1, 0, 2), 1);
        s.due("place(1, 2)", x.place(1, 2), 0);
        s.due("place(0, 2): of that FOLK alone", x.place(0, 2), 0);
        s.says("-2: there are none such.");
        s.bounds("move(folk, 0, 0)", 0, 1, v -> made(TWO).move(v, 0, 0));
        s.bounds("move(0, place, 0)", 0, 1, v -> made(TWO).move(0, v, 0));
        s.bounds("move(0, 0, hour)", 0, 2, v -> made(TWO).move(0, 0, v));
        s.due("move without a hill", none().move(0, 0, 0), -2);
        leaves(TOLD_TWICE, "move(0, 2, 0)", y -> y.move(0, 2, 0));
        leaves(TOLD_TWICE, "move(0, 1, 3)", y -> y.move(0, 1, 3));
    }

    // ---- 42 to 44

    private void teams() {
        HalvedNames x = made(TEAMS);
        s.promise(42);
        s.says("Whether FOLK of a set (bits) together know a name WHOLE behind an HOUR: 1, 0.");
        s.due("together(10, 0, 0)", x.together(10, 0, 0), 1);
        s.due("together(6, 0, 0)", x.together(6, 0, 0), 0);
        s.due("together(6, 0, 1): told in that hour", x.together(6, 0, 1), 1);
        s.due("together(8, 0, 1)", x.together(8, 0, 1), 0);
        s.due("together(14, 0, 0)", x.together(14, 0, 0), 1);
        s.due("together(1, 0, 0): whose it is", x.together(1, 0, 0), 1);
        s.due("together(14, 1, 0): whose it is with others", x.together(14, 1, 0), 1);
        s.due("together(0, 0, 0): nobody", x.together(0, 0, 0), 0);
        s.due("together(13, 1, 0)", x.together(13, 1, 0), 0);
        s.says("-2: there are none such.");
        s.bounds("together(set, 0, 0)", 0, 15, set -> x.together(set, 0, 0));
        s.bounds("together(1, folk, 0)", 0, 3, folk -> x.together(1, folk, 0));
        s.bounds("together(1, 0, hour)", 0, 1, hour -> x.together(1, 0, hour));
        s.due("together(63, 0, 0) of six", made(BARE + "name 0;".repeat(6)).together(63, 0, 0), 1);
        s.due("together(64, 0, 0) of six", made(BARE + "name 0;".repeat(6)).together(64, 0, 0), -2);
        s.due("together(1, 0, 0)", none().together(1, 0, 0), -2);

        s.promise(43);
        s.says("TEAM: the fewest FOLK (he whose it is aside) that do.");
        s.due("team(0, 0)", x.team(0, 0), 2);
        s.due("team(0, 0): of one", made(TEAMS + "knows 3 0 0;").team(0, 0), 1);
        s.due("team(0, 0): of three", made("hill syllables 3 places 1 hours 2;name 0 1 2;name 0;name 1;name 2;"
            + "knows 1 0 0;knows 2 0 1;knows 3 0 2;").team(0, 0), 3);
        s.due("team(0, 0): of five", made("hill syllables 2 places 1 hours 1;name 0 0 0 0 0;" + "name 1;".repeat(5)
            + "knows 1 0 0;knows 2 0 1;knows 3 0 2;knows 4 0 3;knows 5 0 4;").team(0, 0), 5);
        HalvedNames hours = made(BARE + "name 0 1;name 0;name 1;knows 1 0 0;knows 2 0 1;says 2 0 1 at 1;");
        s.due("team(0, 0): behind hour 0", hours.team(0, 0), 2);
        s.due("team(0, 1): behind hour 1", hours.team(0, 1), 1);
        s.says("NONE: none do;");
        s.due("team(1, 0): none knows a thing", x.team(1, 0), -1);
        s.due("team(0, 0): a syllable is missing", made("hill syllables 3 places 1 hours 2;name 0 1 2;name 0;name 1;"
            + "knows 1 0 0;knows 2 0 1;").team(0, 0), -1);
        s.due("team(0, 0): there are no others", made(BARE + "name 0;").team(0, 0), -1);
        s.says("-2 likewise.");
        s.bounds("team(folk, 0)", 0, 3, folk -> x.team(folk, 0));
        s.bounds("team(0, hour)", 0, 1, hour -> x.team(0, hour));
        s.due("team(0, 0)", none().team(0, 0), -2);

        s.promise(44);
        s.says("Who, as bits: the least set of so few.");
        s.due("teamed(0, 0)", x.teamed(0, 0), 10);
        s.due("teamed(0, 1): 6 and 10 do", x.teamed(0, 1), 6);
        s.due("teamed(0, 1): fewer, though not least", made(TEAMS + "knows 3 0 0;").teamed(0, 1), 8);
        s.says("NONE, -2 likewise.");
        s.due("teamed(1, 0)", x.teamed(1, 0), -1);
        s.bounds("teamed(folk, 0)", 0, 3, folk -> x.teamed(folk, 0));
        s.bounds("teamed(0, hour)", 0, 1, hour -> x.teamed(0, hour));
        s.due("teamed(0, 0)", none().teamed(0, 0), -2);
    }

    // ---- 45 and 46

    /** Slots 0, 1 and 2 have sets, slot 3 has nothing. */
    private static HalvedNames sets() {
        HalvedNames x = none();
        setRow(x, 0, 0, 3);
        setRow(x, 1, 1, 1, 2);
        setRow(x, 2, 3, 4);
        return x;
    }

    private void giving() {
        s.promise(45);
        s.says("GIVE (V): the fewest PIECES.");
        HalvedNames x = sets();
        s.due("give(2, 0, 1)", x.give(2, 0, 1), 2);
        s.due("give(1, 0, 2)", x.give(1, 0, 2), 1);
        s.due("give(6, 0, 1)", x.give(6, 0, 1), 6);
        setRow(x, 0, 0, 3, 5, 6);
        setRow(x, 1, 0, 1, 2, 4);
        s.due("give(3, 0, 1): any two of three, none alone", x.give(3, 0, 1), 6);
        setRow(x, 0, 0, 1, 2, 4, 8, 16, 32);
        setRow(x, 1, 0);
        s.due("give(6, 0, 1): all to all", x.give(6, 0, 1), 36);
        s.says("NONE: it can't be;");
        x = sets();
        s.due("give(1, 0, 1): one syllable of two", x.give(1, 0, 1), -1);
        s.due("give(2, 0, 0): friends who are foes", x.give(2, 0, 0), -1);
        s.due("give(6, 0, 0)", x.give(6, 0, 0), -1);
        setRow(x, 1, 0, 7);
        s.due("give(6, 0, 1): friends among foes", x.give(6, 0, 1), -1);
        s.says("-2: there are no such SLOTS, n (1 .. 6), a number is no set (1 .. 63; asked last), more than eight foes;");
        s.bounds("give(2, friends, 1)", 0, 3, v -> sets().give(2, v, 1));
        s.bounds("give(2, 0, foes)", 0, 3, v -> sets().give(2, 0, v));
        s.bounds("give(n, 0, 1)", 1, 6, v -> sets().give(v, 0, 1));
        s.due("give(0, 3, 3): and nothing there", sets().give(0, 3, 3), -2);
        s.due("give(2, 3, 4): and nothing there", sets().give(2, 3, 4), -2);
        for (long v : new long[] {0, 64, -1, 65, 1L << 40, Long.MIN_VALUE}) {
            HalvedNames y = sets();
            setRow(y, 2, 3, 1, v);
            s.due("give of friends " + v, y.give(2, 2, 1), -2);
            s.due("give of foes " + v, y.give(2, 0, 2), -2);
            s.due("give of friends " + v + ", asked last", y.give(2, 2, 3), -6);
            s.due("give of foes " + v + ", asked last", y.give(2, 3, 2), -6);
        }
        for (int v = 1; v <= 63; v++) {
            HalvedNames y = sets();
            setRow(y, 0, 0, v);
            setRow(y, 1, 0, 64 - v);
            s.due("give of " + v, y.give(1, 0, 1), (v & ~(64 - v)) != 0 ? 1 : -1);
        }
        x = sets();
        setRow(x, 2, 0, 4, 8, 16, 32, 12, 20, 36, 24);
        s.due("give(1, 0, 2): eight foes", x.give(1, 0, 2), 1);
        setRow(x, 2, 0, 4, 8, 16, 32, 12, 20, 36, 24, 40);
        s.due("give(1, 0, 2): nine foes", x.give(1, 0, 2), -2);
        s.due("give(1, 2, 1): nine friends", x.give(1, 2, 1), 4);
        s.says("-6: one has nothing.");
        s.due("give(2, 3, 1)", sets().give(2, 3, 1), -6);
        s.due("give(2, 0, 3)", sets().give(2, 0, 3), -6);
        s.due("give(2, 3, 3)", sets().give(2, 3, 3), -6);
        s.due("give(1, 0, 1)", none().give(1, 0, 1), -6);

        s.promise(46);
        s.says("To whom syllable i is given by the first, as bits.");
        x = sets();
        s.due("given(2, 0, 1, 0)", x.given(2, 0, 1, 0), 1);
        s.due("given(2, 0, 1, 1)", x.given(2, 0, 1, 1), 2);
        s.due("given(4, 0, 1, 2)", x.given(4, 0, 1, 2), 1);
        s.due("given(4, 0, 1, 3)", x.given(4, 0, 1, 3), 2);
        setRow(x, 0, 0, 3, 5, 6);
        setRow(x, 1, 0, 1, 2, 4);
        s.due("given(3, 0, 1, 0)", x.given(3, 0, 1, 0), 3);
        s.due("given(3, 0, 1, 1)", x.given(3, 0, 1, 1), 5);
        s.due("given(3, 0, 1, 2)", x.given(3, 0, 1, 2), 6);
        s.says("NONE: it can't be, there is no such i;");
        s.due("given(1, 0, 1, 0)", sets().given(1, 0, 1, 0), -1);
        for (int i : new int[] {-1, 2, 3, 6, MIN, MAX}) {
            s.due("given(2, 0, 1, " + i + ")", sets().given(2, 0, 1, i), -1);
        }
        s.due("given(6, 0, 1, 5)", sets().given(6, 0, 1, 5), 2);
        s.due("given(6, 0, 1, 6)", sets().given(6, 0, 1, 6), -1);
        s.says("-2, -6 likewise.");
        s.bounds("given(2, friends, 1, 0)", 0, 3, v -> sets().given(2, v, 1, 0));
        s.bounds("given(2, 0, foes, 0)", 0, 3, v -> sets().given(2, 0, v, 0));
        s.bounds("given(n, 0, 1, 0)", 1, 6, v -> sets().given(v, 0, 1, 0));
        s.due("given(2, 3, 1, 0)", sets().given(2, 3, 1, 0), -6);
        s.due("given(2, 0, 3, 0)", sets().given(2, 0, 3, 0), -6);
        x = sets();
        setRow(x, 2, 0, 64);
        s.due("given(2, 2, 1, 0)", x.given(2, 2, 1, 0), -2);
        s.due("given(2, 0, 2, 0)", x.given(2, 0, 2, 0), -2);
        s.due("given(2, 3, 2, 0): asked last", x.given(2, 3, 2, 0), -6);
        setRow(x, 2, 0, 1, 1, 1, 1, 1, 1, 1, 1, 1);
        s.due("given(2, 0, 2, 0): nine foes", x.given(2, 0, 2, 0), -2);
    }

    // ---- 47 and 48

    private void fitting() {
        String four = "hill syllables 3 places 1 hours 1;name 0 1 2 0 1 1;name 1 2;name 2 1;name 0 0 0 1;";
        s.promise(47);
        s.says("OVERHEARD: a SLOT's row of syllables, one behind the other: FOLK in whose names they stand so, as bits.");
        s.due("overheard 1 2", withRow(four, 1, 2).overheard(0), 3);
        s.due("overheard 2 1: a whole name", withRow(four, 2, 1).overheard(0), 4);
        s.due("overheard 0 0 1: behind another 0", withRow(four, 0, 0, 1).overheard(0), 8);
        s.due("overheard 1 1: at the end", withRow(four, 1, 1).overheard(0), 1);
        s.due("overheard 0 2: not one behind the other", withRow(four, 0, 2).overheard(0), 0);
        s.due("overheard 0 1 2 0 1 1", withRow(four, 0, 1, 2, 0, 1, 1).overheard(0), 1);
        s.due("overheard 0 1 2 0 1 1 0", withRow(four, 0, 1, 2, 0, 1, 1, 0).overheard(0), 0);
        s.due("overheard 2: all others", withRow(four, 2).overheard(0), 7);
        s.due("overheard a row of sixty", withRow(four, new long[60]).overheard(0), 0);
        s.due("overheard of no FOLK", withRow(BARE, 0).overheard(0), 0);
        s.says("-2: there is no such SLOT, no HILL, a number is no syllable (asked last);");
        s.bounds("overheard(slot)", 0, 3, made(four)::overheard);
        HalvedNames x = none();
        setRow(x, 0, 0, 1);
        s.due("overheard without a hill", x.overheard(0), -2);
        s.due("overheard of nothing without a hill", x.overheard(1), -2);
        for (long v : new long[] {3, -1, 9, 1L << 32, Long.MIN_VALUE}) {
            s.due("overheard 1 " + v, withRow(four, 1, v).overheard(0), -2);
            s.due("overheard " + v + " 1", withRow(four, v, 1).overheard(0), -2);
        }
        s.due("overheard 0 .. 3 in seven", withRow(four, 0, 0, 0, 0, 0, 0, 3).overheard(0), -2);
        s.says("-6: it has nothing.");
        s.due("overheard(0)", made(four).overheard(0), -6);
        s.due("overheard(3)", withRow(four, 1).overheard(3), -6);

        s.promise(48);
        s.says("How many names of n (1 .. 6) syllables there can be in which they stand so.");
        s.due("spellings 1 2 in 1", withRow(four, 1, 2).spellings(0, 1), 0);
        s.due("spellings 1 2 in 2", withRow(four, 1, 2).spellings(0, 2), 1);
        s.due("spellings 1 2 in 3", withRow(four, 1, 2).spellings(0, 3), 6);
        s.due("spellings 1 2 in 4: 27 less one twice", withRow(four, 1, 2).spellings(0, 4), 26);
        s.due("spellings 1 in 1", withRow(four, 1).spellings(0, 1), 1);
        s.due("spellings 1 in 6: all less 2 ^ 6", withRow(four, 1).spellings(0, 6), 665);
        s.due("spellings 0 0 in 3", withRow(four, 0, 0).spellings(0, 3), 5);
        s.due("spellings 0 1 0 in 5: 27 less 0 1 0 1 0 once", withRow(four, 0, 1, 0).spellings(0, 5), 26);
        s.due("spellings 0 0 1 in 4", withRow(four, 0, 0, 1).spellings(0, 4), 6);
        s.due("spellings of six in 6", withRow(four, 0, 0, 0, 1, 0, 0).spellings(0, 6), 1);
        s.due("spellings of six in 5", withRow(four, 0, 0, 0, 1, 0, 0).spellings(0, 5), 0);
        s.due("spellings of seven in 6", withRow(four, 0, 0, 0, 1, 0, 0, 1).spellings(0, 6), 0);
        s.due("spellings of nine syllables", withRow("hill syllables 9 places 1 hours 1;", 8).spellings(0, 6),
            531441 - 262144);
        s.says("-2, -6 likewise, no such n.");
        s.bounds("spellings(0, n)", 1, 6, n -> withRow(four, 1).spellings(0, n));
        s.bounds("spellings(slot, 2)", 0, 3, slot -> made(four).spellings(slot, 2));
        s.due("spellings without a hill", x.spellings(0, 1), -2);
        s.due("spellings 3", withRow(four, 3).spellings(0, 1), -2);
        s.due("spellings 0 0 3 in 2", withRow(four, 0, 0, 3).spellings(0, 2), -2);
        s.due("spellings -1", withRow(four, -1).spellings(0, 1), -2);
        s.due("spellings of nothing", made(four).spellings(0, 1), -6);
    }

    // ---- 49 to 51

    private void guessing() {
        s.promise(49);
        s.says("GUESS: a SLOT's row, two numbers each: which syllable (0 .. 5), what it is: FOLK whose names have all of "
            + "them so, as bits.");
        s.due("guess 0 is 0", withRow(CLUES, 0, 0).guess(0), 11);
        s.due("guess 0 is 0, 1 is 1", withRow(CLUES, 0, 0, 1, 1).guess(0), 9);
        s.due("guess 1 is 1, 0 is 0", withRow(CLUES, 1, 1, 0, 0).guess(0), 9);
        s.due("guess 2 is 2", withRow(CLUES, 2, 2).guess(0), 8);
        s.due("guess 0 is 0 and 1", withRow(CLUES, 0, 0, 0, 1).guess(0), 0);
        s.due("guess 0 is 0 and 0", withRow(CLUES, 0, 0, 0, 0).guess(0), 11);
        s.due("guess 5 is 0: none has it", withRow(CLUES, 5, 0).guess(0), 0);
        s.due("guess 5 is 1", withRow(BARE + "name 0 0 0 0 0 1;name 0 0 0 0 0 0;", 5, 1).guess(0), 1);
        s.due("guess of no FOLK", withRow(BARE, 0, 0).guess(0), 0);
        s.says("-2: there is no such SLOT, no HILL, a number is none such (asked last), not two each;");
        s.bounds("guess(slot)", 0, 3, made(CLUES)::guess);
        s.due("guess without a hill", none().guess(0), -2);
        HalvedNames x = none();
        setRow(x, 0, 0, 0, 0);
        s.due("guess without a hill", x.guess(0), -2);
        s.bounds("guess i is 0", 0, 5, i -> withRow(CLUES, i, 0).guess(0));
        s.bounds("guess 0 is i", 0, 2, i -> withRow(CLUES, 0, i).guess(0));
        s.bounds("guess 0 is 0, i is 2", 0, 5, i -> withRow(CLUES, 0, 0, i, 2).guess(0));
        s.due("guess 0 is 2^32", withRow(CLUES, 0, 1L << 32).guess(0), -2);
        s.due("guess 2^32 is 0", withRow(CLUES, 1L << 32, 0).guess(0), -2);
        s.due("guess 0", withRow(CLUES, 0).guess(0), -2);
        s.due("guess 0 is 0, 1", withRow(CLUES, 0, 0, 1).guess(0), -2);
        s.says("-6: it has nothing.");
        s.due("guess(0)", made(CLUES).guess(0), -6);

        s.promise(50);
        s.says("LISTEN: which syllable (0 .. 5) leaves fewest of these FOLK at worst (one who has none such is told by "
            + "that), if fewer than now, the least of several.");
        s.due("listen of all: 3, 2, 3 and 4 are left", withRow(CLUES).listen(0), 1);
        s.due("listen, 0 is 0: 3, 2 and 2", withRow(CLUES, 0, 0).listen(0), 1);
        s.due("listen, 1 is 1: one has none such", withRow(CLUES, 1, 1).listen(0), 2);
        s.due("listen: the first syllable", withRow(BARE + "name 0;name 1;").listen(0), 0);
        s.due("listen: the sixth syllable", withRow(BARE + "name 0 0 0 0 0 1;name 0 0 0 0 0 0;").listen(0), 5);
        s.due("listen: a sixth syllable or none", withRow(BARE + "name 0 0 0 0 0 1;name 0 0 0 0 0;").listen(0), 5);
        s.says("NONE: none;");
        s.due("listen, 0 is 1: one alone", withRow(CLUES, 0, 1).listen(0), -1);
        s.due("listen, 0 is 2: none at all", withRow(CLUES, 0, 2).listen(0), -1);
        s.due("listen of namesakes", withRow(BARE + "name 0 1;name 0 1;").listen(0), -1);
        s.due("listen of no FOLK", withRow(BARE).listen(0), -1);
        s.says("-2, -6 likewise.");
        wrongClues("listen", HalvedNames::listen);

        s.promise(51);
        s.says("How many it leaves at worst (as now without).");
        s.due("leaves of all", withRow(CLUES).leaves(0), 2);
        s.due("leaves, 0 is 0", withRow(CLUES, 0, 0).leaves(0), 2);
        s.due("leaves, 1 is 1", withRow(CLUES, 1, 1).leaves(0), 1);
        s.due("leaves by the first syllable", withRow(BARE + "name 0;name 1;name 0 1;").leaves(0), 2);
        s.due("leaves by the first syllable", withRow(BARE + "name 0;name 1;").leaves(0), 1);
        s.due("leaves, 0 is 1: as now", withRow(CLUES, 0, 1).leaves(0), 1);
        s.due("leaves, 0 is 2: as now", withRow(CLUES, 0, 2).leaves(0), 0);
        s.due("leaves of namesakes: as now", withRow(BARE + "name 0 1;name 0 1;name 0 1;").leaves(0), 3);
        s.due("leaves of no FOLK", withRow(BARE).leaves(0), 0);
        s.says("-2, -6 likewise.");
        wrongClues("leaves", HalvedNames::leaves);
    }

    private interface OfSlot {
        int at(HalvedNames x, int slot);
    }

    private void wrongClues(String call, OfSlot ask) {
        s.bounds(call + "(slot)", 0, 3, slot -> ask.at(made(CLUES), slot));
        HalvedNames x = none();
        setRow(x, 0, 0, 0, 0);
        s.due(call + " without a hill", ask.at(x, 0), -2);
        s.due(call + " of nothing without a hill", ask.at(x, 1), -2);
        s.bounds(call + ", i is 0", 0, 5, i -> ask.at(withRow(CLUES, i, 0), 0));
        s.bounds(call + ", 0 is i", 0, 2, i -> ask.at(withRow(CLUES, 0, i), 0));
        s.due(call + " of three numbers", ask.at(withRow(CLUES, 0, 0, 0), 0), -2);
        s.due(call + " of nothing", ask.at(made(CLUES), 0), -6);
    }

    // ---- 52 and 53

    private void loving() {
        String lovers = "hill syllables 2 places 1 hours 1;name 0 0;name 0;name 0 0 0 0 0 0;name 1 1 1 1 1 1;";
        HalvedNames x = made(lovers);
        HalvedNames three = made(THREE);
        s.promise(52);
        s.says("LOVE: in how many orders two FOLK can tell one another their names syllable by syllable (each its own "
            + "from the first on), so that neither is ever more than n (0 .. 6) ahead.");
        s.due("love(0, 1, 0): the first is ahead at once", x.love(0, 1, 0), 0);
        s.due("love(2, 3, 0)", x.love(2, 3, 0), 0);
        s.due("love(0, 1, 1)", x.love(0, 1, 1), 2);
        s.due("love(1, 0, 1)", x.love(1, 0, 1), 2);
        s.due("love(0, 1, 2): all", x.love(0, 1, 2), 3);
        s.due("love(2, 3, 1): either one of each two", x.love(2, 3, 1), 64);
        s.due("love(2, 3, 5): neither all at once", x.love(2, 3, 5), 922);
        s.due("love(2, 3, 6): all", x.love(2, 3, 6), 924);
        s.due("love(2, 1, 4): 5 are ahead in the end", x.love(2, 1, 4), 0);
        s.due("love(2, 1, 5): all but the longer first", x.love(2, 1, 5), 6);
        s.due("love(2, 1, 6): all", x.love(2, 1, 6), 7);
        s.says("-2: there are none such, one twice.");
        s.twoOfThree("love", (folk, other) -> three.love(folk, other, 1));
        s.bounds("love(0, 1, n)", 0, 6, n -> x.love(0, 1, n));
        s.due("love(0, 1, 1)", none().love(0, 1, 1), -2);

        s.promise(53);
        s.says("The least such n for which there is one.");
        s.due("trust(0, 1)", x.trust(0, 1), 1);
        s.due("trust(2, 3): of like length", x.trust(2, 3), 1);
        s.due("trust(0, 2)", x.trust(0, 2), 4);
        s.due("trust(2, 1)", x.trust(2, 1), 5);
        s.due("trust(0, 1) of one each", made(BARE + "name 0;name 1;").trust(0, 1), 1);
        s.says("-2 likewise.");
        s.twoOfThree("trust", three::trust);
        s.due("trust(0, 1)", none().trust(0, 1), -2);
    }

    // ---- 54 to 56

    private void children() {
        s.promise(54);
        s.says("FREE (VI): how many names of n (1 .. 6) syllables are FREE of all FOLK's.");
        HalvedNames x = made("hill syllables 4 places 1 hours 1;name 0 1 2;name 0 1;name 3;name 0 1 2;");
        s.due("free(1): 1 and 2", x.free(1), 2);
        s.due("free(2)", x.free(2), 16 - 1 - 4);
        s.due("free(3)", x.free(3), 64 - 4 - 16);
        s.due("free(6)", x.free(6), 4096 - 256 - 1024);
        s.due("free(6): all", made("hill syllables 9 places 1 hours 1;").free(6), 531441);
        s.due("free(1): all", made(BARE).free(1), 2);
        s.due("free(6): none", made(BARE + "name 0;name 1;").free(6), 0);
        s.due("free(1): none, all are beginnings", made(BARE + "name 0 0;name 1 1;").free(1), 0);
        s.due("free(2): two have one beginning", made(BARE + "name 0 0 0;name 0 0 1;").free(2), 3);
        s.says("-2: there is no such n, no HILL.");
        s.bounds("free(n)", 1, 6, x::free);
        s.due("free(1)", none().free(1), -2);

        s.promise(55);
        s.says("CHILD: the fewest syllables of a FREE name (what NONE), syllable what (0 and above) of the least such row.");
        HalvedNames y = made("hill syllables 3 places 1 hours 1;name 0 0;name 1;name 2;");
        s.due("child(-1)", y.child(-1), 2);
        s.due("child(0)", y.child(0), 0);
        s.due("child(1)", y.child(1), 1);
        s.due("child(-1): one syllable", x.child(-1), 1);
        s.due("child(0)", x.child(0), 1);
        s.due("child(-1) of no FOLK", made(BARE).child(-1), 1);
        s.due("child(0) of no FOLK", made(BARE).child(0), 0);
        HalvedNames longer = made(BARE + "name 0 0;name 0 1;name 1 0;");
        s.due("child(-1): both of one syllable are beginnings", longer.child(-1), 2);
        s.due("child(0): all with 0 are names", longer.child(0), 1);
        s.due("child(1)", longer.child(1), 1);
        HalvedNames six = made(BARE + "name 0;name 1 0;name 1 1 0;name 1 1 1 0;name 1 1 1 1 0;name 1 1 1 1 1 0;");
        s.due("child(-1): six syllables", six.child(-1), 6);
        for (int i = 0; i < 6; i++) {
            s.due("child(" + i + ")", six.child(i), 1);
        }
        s.says("NONE: there is none such;");
        s.due("child(-1): none is FREE", made(BARE + "name 0;name 1;").child(-1), -1);
        s.due("child(0): none is FREE", made(BARE + "name 0;name 1;").child(0), -1);
        s.due("child(-1): none is FREE of six", made(BARE + "name 1 1 1 1 1;name 0;name 1 0;name 1 1 0;name 1 1 1 0;"
            + "name 1 1 1 1 0;").child(-1), -1);
        s.due("child(2) of two", y.child(2), -1);
        s.due("child(1) of one", x.child(1), -1);
        s.due("child(6) of six", six.child(6), -1);
        s.due("child(MAX)", x.child(MAX), -1);
        s.says("-2: there is no HILL, what is below NONE.");
        for (int what : new int[] {-2, -3, MIN}) {
            s.due("child(" + what + ")", x.child(what), -2);
            s.due("child(" + what + ") of none FREE", made(BARE + "name 0;name 1;").child(what), -2);
        }
        s.due("child(-1)", none().child(-1), -2);
        s.due("child(0)", none().child(0), -2);

        s.promise(56);
        s.says("FOLK whose names would not be FREE of a FOLK's (itself aside), as bits.");
        HalvedNames z = made("hill syllables 3 places 1 hours 1;name 0 1;name 0;name 0 1 2;name 0 1;name 1;name 0 2;");
        s.due("clash(0)", z.clash(0), 2 + 4 + 8);
        s.due("clash(1)", z.clash(1), 1 + 4 + 8 + 32);
        s.due("clash(2)", z.clash(2), 1 + 2 + 8);
        s.due("clash(4): none", z.clash(4), 0);
        s.due("clash(5)", z.clash(5), 2);
        s.says("-2: there is none such.");
        s.bounds("clash(folk)", 0, 5, z::clash);
        s.due("clash(0)", none().clash(0), -2);
    }

    // ---- 57

    private void odds(String call, HalvedNames x, int folk, int other, long above, long below) {
        s.due(call + ", above", x.chance(folk, other, 0), above);
        s.due(call + ", below", x.chance(folk, other, 1), below);
    }

    private void mishearing() {
        s.promise(57);
        s.says("CHANCE that a FOLK knows another one's name WHOLE in the end, if it alone hears ill (its odds each time), "
            + "above (what 0), below (1).");
        odds("told once", made(ILL + "deaf 1 50;says 0 0 0 at 0;"), 1, 0, 1, 2);
        odds("told twice", made(ILL + "deaf 1 50;says 0 0 0 at 0;says 0 0 0 at 3;"), 1, 0, 3, 4);
        odds("told twice, others between", made(ILL + "deaf 1 50;says 0 0 0 at 0;says 0 2 0 at 0;says 1 1 0 at 0;"
            + "says 0 0 0 at 0;"), 1, 0, 3, 4);
        odds("two syllables", made(ILL + "deaf 0 30;says 1 1 0 at 0;says 1 1 1 at 0;"), 0, 1, 49, 100);
        odds("never told", made(ILL + "deaf 1 50;"), 1, 0, 0, 1);
        odds("deaf 100", made(ILL + "deaf 1 100;says 0 0 0 at 0;"), 1, 0, 0, 1);
        odds("deaf 0", made(ILL + "says 0 0 0 at 0;"), 1, 0, 1, 1);
        odds("known ahead of all", made(ILL + "deaf 1 100;knows 1 0 0;says 0 0 0 at 0;"), 1, 0, 1, 1);
        odds("it alone: another one tells it again", made(ILL + "deaf 1 50;deaf 2 100;says 0 0 0 at 0;says 2 0 0 at 1;"),
            1, 0, 3, 4);
        odds("what another one is told by it", made(CHAIN + "deaf 1 25;"), 1, 0, 3, 4);
        odds("another one's deafness", made(CHAIN + "deaf 1 25;deaf 2 50;"), 3, 0, 1, 1);
        odds("what it must hear to say", made("hill syllables 2 places 2 hours 4;name 0;name 0 1;name 1;deaf 0 50;"
            + "goes 2 1 at 0;goes 0 1 at 1;goes 0 0 at 2;knows 2 1 0;says 2 1 0 at 1;says 0 1 0 at 2;says 1 1 1 at 3;"),
            0, 1, 1, 4);
        s.says("NONE: there are more than eight SAYINGS that tell it something it did not know ahead of all;");
        String eight = ILL + "deaf 1 50;" + "says 0 0 0 at 0;".repeat(8);
        odds("eight", made(eight), 1, 0, 255, 256);
        odds("eight by one in a hundred", made(ILL + "deaf 1 1;" + "says 0 0 0 at 0;".repeat(8)), 1, 0,
            9999999999999999L, 10000000000000000L);
        HalvedNames nine = made(eight + "says 0 0 0 at 1;");
        s.due("nine of it", nine.chance(1, 0, 0), -1);
        s.due("nine of it", nine.chance(1, 0, 1), -1);
        s.due("nine, one of another name", made(eight + "says 2 2 0 at 1;").chance(1, 0, 1), -1);
        s.due("nine, for a name that is never told", made(eight + "says 2 2 0 at 1;name 1 1;").chance(1, 3, 0), -1);
        odds("nine, one known ahead of all", made(eight + "says 2 2 0 at 1;knows 1 2 0;"), 1, 0, 255, 256);
        odds("nine, one of its own name", made(eight + "says 1 1 0 at 1;"), 1, 0, 255, 256);
        odds("nine, the first of its own name", made(ILL + "deaf 1 50;says 1 1 0 at 0;" + "says 0 0 0 at 0;".repeat(8)), 1, 0,
            255, 256);
        odds("nine, a second syllable known ahead of all", made(ILL + "name 1 1;deaf 1 50;knows 1 3 1;says 3 3 1 at 0;"
            + "says 0 0 0 at 0;".repeat(8)), 1, 0, 255, 256);
        s.due("nine, the first known but the second told", made(ILL + "name 1 1;deaf 1 50;knows 1 3 0;says 3 3 1 at 0;"
            + "says 0 0 0 at 0;".repeat(8)).chance(1, 0, 0), -1);
        odds("nine, one not said", made(eight + "says 0 2 0 at 1;"), 1, 0, 255, 256);
        odds("nine, one elsewhere", made(eight.replace("places 1", "places 2") + "says 0 0 0 at 1;goes 1 1 at 1;"), 1, 0,
            255, 256);
        s.due("twelve", made(ILL + "says 0 0 0 at 0;".repeat(12)).chance(1, 0, 0), -1);
        odds("twelve, known ahead of all", made(ILL + "knows 1 0 0;" + "says 0 0 0 at 0;".repeat(12)), 1, 0, 1, 1);
        s.says("-2: there are none such, one twice.");
        s.twoOfThree("chance", (folk, other) -> made(eight).chance(folk, other, 0));
        s.bounds("chance(1, 0, what)", 0, 1, what -> made(eight).chance(1, 0, what));
        s.due("chance(1, 0, 2) of nine", nine.chance(1, 0, 2), -2);
        s.due("chance(1, 1, 0) of nine", nine.chance(1, 1, 0), -2);
        s.due("chance(0, 1, 0)", none().chance(0, 1, 0), -2);
        leaves(eight, "chance", x -> x.chance(1, 0, 0));
    }

    // ---- 58 and 59

    /** From seed 1 the draws are 38 and 58, from seeds 0 to 5 the first ones 0, 38, 8, 47, 17 and 55. */
    private static HalvedNames deaf(int first, int second) {
        return made(ILL + "deaf 1 " + first + ";deaf 2 " + second + ";says 0 0 0 at 0;");
    }

    private void drawing() {
        s.promise(58);
        s.says("HEARD ILL (VII) by a seed (0 .. 2,000,000,000): syllables (bits) that a FOLK knows of another one's name "
            + "in the end.");
        s.due("drawn(1, 1, 0): 38 is not below 38", deaf(38, 0).drawn(1, 1, 0), 1);
        s.due("drawn(1, 1, 0): 38 is below 39", deaf(39, 0).drawn(1, 1, 0), 0);
        s.due("drawn(1, 2, 0): 58", deaf(0, 58).drawn(1, 2, 0), 1);
        s.due("drawn(1, 2, 0): 58", deaf(0, 59).drawn(1, 2, 0), 0);
        s.due("drawn(0, 1, 0): 0", deaf(1, 0).drawn(0, 1, 0), 0);
        s.due("drawn(2e9, 1, 0)", deaf(0, 0).drawn(2000000000, 1, 0), 1);
        s.due("drawn(1, 1, 0): bits", made(ILL + "knows 2 1 1;says 1 1 0 at 0;").drawn(1, 2, 1), 3);
        s.due("drawn(1, 0, 2): never told", deaf(0, 0).drawn(1, 0, 2), 0);
        s.says("-2: there are none such.");
        s.due("drawn(-1, 1, 0)", deaf(0, 0).drawn(-1, 1, 0), -2);
        s.due("drawn(MIN, 1, 0)", deaf(0, 0).drawn(MIN, 1, 0), -2);
        s.due("drawn(2000000001, 1, 0)", deaf(0, 0).drawn(2000000001, 1, 0), -2);
        s.due("drawn(MAX, 1, 0)", deaf(0, 0).drawn(MAX, 1, 0), -2);
        s.bounds("drawn(0, folk, 0)", 0, 2, folk -> deaf(0, 0).drawn(0, folk, 0));
        s.bounds("drawn(0, 0, other)", 0, 2, other -> deaf(0, 0).drawn(0, 0, other));
        s.due("drawn(0, 0, 1)", none().drawn(0, 0, 1), -2);
        leaves(ILL + "deaf 1 100;says 0 0 0 at 0;", "drawn", x -> x.drawn(0, 1, 0));

        s.promise(59);
        s.says("Of n (1 .. 20) such from seeds, the seed and 1, .., in how many WHOLE.");
        HalvedNames x = deaf(40, 0);
        int[] sums = {0, 0, 0, 1, 1, 2};
        for (int n = 1; n <= sums.length; n++) {
            s.due("years(0, " + n + ", 1, 0)", x.years(0, n, 1, 0), sums[n - 1]);
        }
        s.due("years(3, 1, 1, 0)", x.years(3, 1, 1, 0), 1);
        s.due("years(4, 2, 1, 0)", x.years(4, 2, 1, 0), 1);
        s.due("years(0, 20, 2, 0): in all", x.years(0, 20, 2, 0), 20);
        s.due("years(0, 20, 2, 1): in none", x.years(0, 20, 2, 1), 0);
        s.due("years: half a name", made(ILL + "says 1 1 0 at 0;").years(0, 20, 2, 1), 0);
        s.due("years(2e9, 20, 2, 0): seeds above", x.years(2000000000, 20, 2, 0), 20);
        s.says("-2 likewise, no such n.");
        s.bounds("years(0, n, 1, 0)", 1, 20, n -> deaf(0, 0).years(0, n, 1, 0));
        s.bounds("years(0, 1, folk, 0)", 0, 2, folk -> deaf(0, 0).years(0, 1, folk, 0));
        s.bounds("years(0, 1, 0, other)", 0, 2, other -> deaf(0, 0).years(0, 1, 0, other));
        s.due("years(-1, 1, 1, 0)", x.years(-1, 1, 1, 0), -2);
        s.due("years(MIN, 1, 1, 0)", x.years(MIN, 1, 1, 0), -2);
        s.due("years(2000000001, 1, 1, 0)", x.years(2000000001, 1, 1, 0), -2);
        s.due("years(MAX, 1, 1, 0)", x.years(MAX, 1, 1, 0), -2);
        s.due("years(0, 1, 0, 1)", none().years(0, 1, 0, 1), -2);
    }

    // ---- 60 and 61

    private void teachingAndCounting() {
        s.promise(60);
        s.says("A FOLK knows (1) syllable i of another one's name ahead of all from now on, or not (0): what it was.");
        HalvedNames x = made(TWO + "knows 1 0 0;");
        s.due("teach(1, 0, 1, 1)", x.teach(1, 0, 1, 1), 0);
        s.due("knew(1, 0)", x.knew(1, 0), 3);
        s.due("whole(1, 0)", x.whole(1, 0), -3);
        s.due("teach(1, 0, 1, 1): again", x.teach(1, 0, 1, 1), 1);
        s.due("knew(1, 0)", x.knew(1, 0), 3);
        s.due("teach(1, 0, 0, 0)", x.teach(1, 0, 0, 0), 1);
        s.due("knew(1, 0)", x.knew(1, 0), 2);
        s.due("teach(1, 0, 0, 0): again", x.teach(1, 0, 0, 0), 0);
        s.due("knew(1, 0)", x.knew(1, 0), 2);
        s.due("whole(1, 0)", x.whole(1, 0), -1);
        s.due("teach(1, 0, 1, 0)", x.teach(1, 0, 1, 0), 1);
        s.due("knew(1, 0)", x.knew(1, 0), 0);
        s.due("teach(0, 1, 0, 1)", x.teach(0, 1, 0, 1), 0);
        s.due("knew(0, 1)", x.knew(0, 1), 1);
        s.due("knew(1, 0)", x.knew(1, 0), 0);
        x = made(TWO + "says 0 0 0 at 0;");
        s.due("teach(1, 0, 0, 1): told later is not ahead of all", x.teach(1, 0, 0, 1), 0);
        s.due("learnt(0)", x.learnt(0), 0);
        s.due("teach(1, 0, 0, 0)", x.teach(1, 0, 0, 0), 1);
        s.due("learnt(0)", x.learnt(0), 2);
        s.says("-2: there are none such, one twice.");
        s.twoOfThree("teach", (folk, other) -> made(THREE).teach(folk, other, 0, 1));
        s.bounds("teach(1, 0, i, 1)", 0, 1, i -> made(TWO).teach(1, 0, i, 1));
        s.bounds("teach(0, 1, i, 1)", 0, 0, i -> made(TWO).teach(0, 1, i, 1));
        s.bounds("teach(1, 0, 0, is)", 0, 1, is -> made(TWO).teach(1, 0, 0, is));
        s.due("teach(1, 0, 0, 1)", none().teach(1, 0, 0, 1), -2);
        leaves(TWO + "knows 1 0 0;", "teach(1, 0, 0, 2)", y -> y.teach(1, 0, 0, 2));
        leaves(TWO + "knows 1 0 0;", "teach(1, 0, 2, 1)", y -> y.teach(1, 0, 2, 1));
        leaves(TWO + "knows 1 0 0;", "teach(1, 1, 0, 0)", y -> y.teach(1, 1, 0, 0));

        s.promise(61);
        s.says("0 syllables, 1 places, 2 hours, 3 FOLK, 4 SAYINGS, 5 LINES, 6 bytes of the TAPE, 7 SLOTS that have a row.");
        x = made("hill syllables 7 places 4 hours 24;name 6;name 5;says 0 0 0 at 23;");
        x.feed(0, 0, 0, 0, 0);
        x.end(13);
        x.row(1, 0, 0);
        x.row(3, 2, 60);
        x.row(3, 1, 7);
        int[] counts = {7, 4, 24, 2, 1, 4, 13, 2};
        for (int what = 0; what < counts.length; what++) {
            s.due("count(" + what + ")", x.count(what), counts[what]);
        }
        x.row(0, 0, 1);
        x.row(2, 0, 1);
        s.due("count(7): all", x.count(7), 4);
        s.says("NONE for others.");
        for (int what : new int[] {-1, 8, MIN, MAX}) {
            s.due("count(" + what + ")", x.count(what), -1);
            s.due("count(" + what + ")", none().count(what), -1);
        }
    }

    // ---- 62 and 63

    private void images() {
        s.promise(62);
        s.says("IMAGE k (0 .. 2) keeps the HILL: 0.");
        HalvedNames x = made(TOLD_TWICE);
        String all = told(x);
        for (int k = 0; k < 3; k++) {
            s.due("image(" + k + ")", x.image(k), 0);
        }
        x.unsay();
        s.due("image(1), in place of that", x.image(1), 0);
        String less = told(x);
        x.back(2);
        s.due("image 2", told(x), all);
        x.back(1);
        s.due("image 1", told(x), less);
        s.due("image of no HILL", none().image(0), 0);
        s.says("-2: no such k.");
        s.bounds("image(k)", 0, 2, made(TWO)::image);
        s.bounds("image(k) of no HILL", 0, 2, none()::image);

        s.promise(63);
        s.says("It is as IMAGE k has it: 0.");
        x = made(TOLD_TWICE);
        x.image(0);
        x.say(1, 1, 0, 1);
        x.move(1, 1, 0);
        x.teach(0, 1, 0, 1);
        s.due("back(0)", x.back(0), 0);
        s.due("as it was", told(x), all);
        s.due("betrayed and the like, too", x.hushed(1, 0), 2);
        Feeder.hill(x, "hill syllables 9 places 4 hours 24;name 8 8;name 0;name 7;stammers 0 4;deaf 2 9;foe 1 0;"
            + "goes 2 3 at 0;knows 1 0 1;says 0 0 1 at 0;");
        s.due("back(0) from another HILL", x.back(0), 0);
        s.due("as it was", told(x), all);
        s.due("back(0) again", x.back(0), 0);
        s.due("as it was", told(x), all);
        x = none();
        x.image(2);
        Feeder.hill(x, TOLD_TWICE);
        Feeder.put(x, "hill");
        x.row(1, 0, 2);
        s.due("back(2) to no HILL", x.back(2), 0);
        s.due("rings()", x.rings(), -2);
        s.due("count(6): the TAPE is not of it", x.count(6), 4);
        s.due("count(7): nor are SLOTS", x.count(7), 1);
        s.says("-2: no such k;");
        HalvedNames kept = made(TWO);
        for (int k = 0; k < 3; k++) {
            kept.image(k);
        }
        s.bounds("back(k)", 0, 2, kept::back);
        s.bounds("back(k) of none kept", 0, 2, none()::back);
        s.says("-6: it has nothing.");
        for (int k = 0; k < 3; k++) {
            s.due("back(" + k + ")", none().back(k), -6);
        }
        HalvedNames one = made(TWO);
        one.image(1);
        s.due("back(0)", one.back(0), -6);
        s.due("back(2)", one.back(2), -6);
        leaves(TOLD_TWICE, "back(1)", y -> y.back(1));
    }

    // ---- 64 and 65

    /** Two-syllable names 0 1 to 5 6, so that a row of two is told by who has them. */
    private static final String SIX =
        "hill syllables 9 places 1 hours 1;name 0 1;name 1 2;name 2 3;name 3 4;name 4 5;name 5 6;";

    private void rows() {
        s.promise(64);
        s.says("A SLOT (0 .. 3) has a row of n numbers of a WIDTH, all 0 (in place of another one): 0.");
        HalvedNames x = made(SIX);
        for (int slot = 0; slot < 4; slot++) {
            s.due("row(" + slot + ", " + slot + ", 1)", x.row(slot, slot, 1), 0);
            s.due("overheard(" + slot + "): 0", x.overheard(slot), 1);
            x.write(slot, 0, 5);
            s.due("overheard(" + slot + "): 5", x.overheard(slot), 48);
            s.due("row(" + slot + ", 3, 1)", x.row(slot, 3, 1), 0);
            s.due("overheard(" + slot + "): 0 again", x.overheard(slot), 1);
        }
        s.due("row(0, 3, 0): none", x.row(0, 3, 0), 0);
        s.due("write(0, 0, 1)", x.write(0, 0, 1), -7);
        s.due("row(0, 3, 60): the most", x.row(0, 3, 60), 0);
        s.due("write(0, 59, 1)", x.write(0, 59, 1), 0);
        s.due("write(0, 60, 1)", x.write(0, 60, 1), -7);
        setRow(x, 0, 0, 1, 1, 1);
        s.due("row(0, 0, 2)", x.row(0, 0, 2), 0);
        x.write(0, 1, 1);
        s.due("overheard 0 1: all 0", x.overheard(0), 1);
        s.says("-2: there is no such SLOT or WIDTH (0 .. 3), or n is above 60;");
        s.bounds("row(slot, 0, 1)", 0, 3, slot -> none().row(slot, 0, 1));
        s.bounds("row(0, width, 1)", 0, 3, width -> none().row(0, width, 1));
        s.due("row(0, 0, 61)", none().row(0, 0, 61), -2);
        s.due("row(0, 0, MAX)", none().row(0, 0, MAX), -2);
        setRow(x, 0, 0, 3, 4);
        x.row(0, 0, 61);
        x.row(0, 4, 2);
        s.due("overheard(0): it stays", x.overheard(0), 8);
        s.due("count(7)", x.count(7), 4);
        s.says("-3, and the SLOT stays: n is below 0.");
        for (int n : new int[] {-1, -60, MIN}) {
            s.due("row(0, 1, " + n + ")", x.row(0, 1, n), -3);
            s.due("overheard(0)", x.overheard(0), 8);
            s.due("write(0, 2, 1)", x.write(0, 2, 1), -7);
        }
        HalvedNames y = none();
        s.due("row(2, 0, -1)", y.row(2, 0, -1), -3);
        s.due("count(7): still nothing", y.count(7), 0);

        s.promise(65);
        s.says("Number i of the SLOT's row is v, cut to its WIDTH: 0.");
        x = made(SIX);
        for (int width = 0; width < 4; width++) {
            x.row(1, width, 2);
            s.due("write(1, 1, 5)", x.write(1, 1, 5), 0);
            s.due("write(1, 0, 4)", x.write(1, 0, 4), 0);
            s.due("overheard 4 5", x.overheard(1), 16);
            for (int bits = 8; bits < 64; bits *= 2) {
                s.due("write(1, 0, 2^" + bits + " + 4)", x.write(1, 0, (1L << bits) + 4), 0);
                s.due("cut to " + width, x.overheard(1), bits >= 8 << width ? 16 : -2);
                s.due("write(1, 0, 4 - 2^" + bits + ")", x.write(1, 0, 4 - (1L << bits)), 0);
                s.due("cut to " + width, x.overheard(1), bits >= 8 << width ? 16 : -2);
                s.due("write(1, 0, 2^" + bits + " - 1)", x.write(1, 0, (1L << bits) - 1), 0);
                s.due("no syllable", x.overheard(1), -2);
            }
        }
        s.due("write(1, 0, MIN)", x.write(1, 0, Long.MIN_VALUE), 0);
        s.due("overheard(1)", x.overheard(1), -2);
        s.says("-2: there is no such SLOT;");
        s.bounds("write(slot, 0, 0)", 0, 3, slot -> made(SIX).write(slot, 0, 0));
        s.says("-6: it has nothing;");
        for (int slot = 0; slot < 4; slot++) {
            s.due("write(" + slot + ", 0, 0)", none().write(slot, 0, 0), -6);
            s.due("write(" + slot + ", -1, 0)", none().write(slot, -1, 0), -6);
        }
        s.says("-7: there is no such number.");
        x.row(1, 0, 2);
        for (int i : new int[] {-1, 2, 60, MIN, MAX}) {
            s.due("write(1, " + i + ", 1)", x.write(1, i, 1), -7);
        }
        x.write(1, 1, 1);
        s.due("overheard 0 1: nothing else is written", x.overheard(1), 1);
        x.row(2, 0, 0);
        s.due("write(2, 0, 1) of a row of none", x.write(2, 0, 1), -7);
    }

    // ---- 66

    /** Slot 0 has 0 1 2 3 4 5 6, slot 1 has 8 8, slot 2 has 8 8 of another WIDTH, slot 3 has nothing. */
    private static HalvedNames pasted() {
        HalvedNames x = made(SIX);
        setRow(x, 0, 1, 0, 1, 2, 3, 4, 5, 6);
        setRow(x, 1, 1, 8, 8);
        setRow(x, 2, 2, 8, 8);
        return x;
    }

    private void pasting() {
        s.promise(66);
        s.says("So many numbers of a SLOT's row, from one on, are put to another one's (or its own), from one on, "
            + "as they were: 0.");
        HalvedNames x = pasted();
        s.due("paste(0, 3, 1, 0, 2)", x.paste(0, 3, 1, 0, 2), 0);
        s.due("overheard 3 4", x.overheard(1), 8);
        s.due("paste(0, 5, 1, 0, 2): the last", x.paste(0, 5, 1, 0, 2), 0);
        s.due("overheard 5 6", x.overheard(1), 32);
        s.due("paste(0, 5, 1, 1, 1)", x.paste(0, 5, 1, 1, 1), 0);
        s.due("overheard 5 5", x.overheard(1), 0);
        s.due("paste(0, 4, 1, 0, 1)", x.paste(0, 4, 1, 0, 1), 0);
        s.due("overheard 4 5", x.overheard(1), 16);
        s.due("paste(1, 0, 0, 0, 2)", x.paste(1, 0, 0, 0, 2), 0);
        s.due("paste(0, 0, 1, 0, 2): 4 5 stand there", x.paste(0, 0, 1, 0, 2), 0);
        s.due("overheard 4 5", x.overheard(1), 16);
        asTheyWere(1, 0, 6, new int[] {1, 2, 3, 4, 5, 6, 6});
        asTheyWere(0, 1, 6, new int[] {0, 0, 1, 2, 3, 4, 5});
        asTheyWere(2, 3, 3, new int[] {0, 1, 2, 2, 3, 4, 6});
        asTheyWere(3, 2, 3, new int[] {0, 1, 3, 4, 5, 5, 6});
        asTheyWere(2, 2, 3, new int[] {0, 1, 2, 3, 4, 5, 6});
        asTheyWere(0, 0, 7, new int[] {0, 1, 2, 3, 4, 5, 6});
        asTheyWere(7, 0, 0, new int[] {0, 1, 2, 3, 4, 5, 6});
        asTheyWere(0, 5, 2, new int[] {0, 1, 2, 3, 4, 0, 1});
        s.says("-2: there is no such SLOT;");
        s.bounds("paste(slot, 0, 1, 0, 1)", 0, 3, slot -> pasted().paste(slot, 0, 1, 0, 1));
        s.bounds("paste(0, 0, slot, 0, 1)", 0, 3, slot -> pasted().paste(0, 0, slot, 0, 1));
        s.due("paste(3, 0, 4, 0, 1): and nothing there", pasted().paste(3, 0, 4, 0, 1), -2);
        s.due("paste(-1, 0, 3, 0, 1): and nothing there", pasted().paste(-1, 0, 3, 0, 1), -2);
        s.says("-6: one has nothing;");
        s.due("paste(3, 0, 0, 0, 1)", pasted().paste(3, 0, 0, 0, 1), -6);
        s.due("paste(0, 0, 3, 0, 1)", pasted().paste(0, 0, 3, 0, 1), -6);
        s.due("paste(3, 0, 3, 0, 0)", pasted().paste(3, 0, 3, 0, 0), -6);
        s.due("paste(0, -1, 3, 0, 0)", pasted().paste(0, -1, 3, 0, 0), -6);
        s.says("-8: they are not of one WIDTH;");
        s.due("paste(0, 0, 2, 0, 1)", pasted().paste(0, 0, 2, 0, 1), -8);
        s.due("paste(2, 0, 1, 0, 0)", pasted().paste(2, 0, 1, 0, 0), -8);
        s.due("paste(0, 99, 2, -1, -1): and beyond", pasted().paste(0, 99, 2, -1, -1), -8);
        s.says("-7, and nothing happens: some are beyond their rows (also where n is 0: a place above how many it has), "
            + "or a place or n is below 0.");
        beyond(0, 1, 0, 3);
        beyond(6, 1, 0, 2);
        beyond(0, 1, 1, 2);
        beyond(7, 1, 0, 1);
        beyond(0, 1, 2, 1);
        beyond(8, 1, 0, 0);
        beyond(0, 1, 3, 0);
        beyond(-1, 1, 0, 1);
        beyond(-1, 1, 0, 0);
        beyond(0, 1, -1, 1);
        beyond(0, 1, -1, 0);
        beyond(0, 1, 0, -1);
        beyond(5, 1, 1, -1);
        beyond(0, 0, 1, 7);
        beyond(1, 0, 0, 7);
        beyond(MAX, 1, 0, MAX);
        beyond(1, 1, 0, MAX);
        beyond(0, 1, MAX, 1);
        beyond(MIN, 1, 0, 1);
        beyond(0, 1, MIN, 1);
        beyond(0, 1, 0, MIN);
        s.due("paste(0, 7, 1, 2, 0): both at their ends", pasted().paste(0, 7, 1, 2, 0), 0);
        s.due("paste(0, 0, 1, 0, 0)", pasted().paste(0, 0, 1, 0, 0), 0);
    }

    /** Slot 0 on itself, then each of its numbers alone in slot 1: v stands in names v - 1 and v. */
    private void asTheyWere(int i, int k, int n, int[] want) {
        HalvedNames x = pasted();
        String call = "paste(0, " + i + ", 0, " + k + ", " + n + ")";
        s.due(call, x.paste(0, i, 0, k, n), 0);
        x.row(1, 1, 1);
        for (int at = 0; at < want.length; at++) {
            x.paste(0, at, 1, 0, 1);
            s.due(call + ", number " + at, x.overheard(1), (1 << want[at] | 1 << want[at] >> 1) & 63);
        }
    }

    private void beyond(int i, int to, int k, int n) {
        HalvedNames x = pasted();
        s.due("paste(0, " + i + ", " + to + ", " + k + ", " + n + ")", x.paste(0, i, to, k, n), -7);
        setRow(x, 3, 1, 0, 0);
        for (int at = 0; at < 6; at++) {
            x.paste(0, at, 3, 0, 2);
            s.due("numbers " + at + " and the next one stay", x.overheard(3), 1 << at);
        }
        x.row(3, 1, 1);
        for (int at = 0; at < 2; at++) {
            x.paste(1, at, 3, 0, 1);
            s.due("number " + at + " of slot 1 stays: 8", x.overheard(3), 0);
        }
    }
}
