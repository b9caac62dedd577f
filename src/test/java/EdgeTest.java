import java.io.IOException;

/** The sections "Promise 1" to "Promise 33", sentence by sentence, with each edge that they name. */
public final class EdgeTest {
    private static final int MIN = Integer.MIN_VALUE;
    private static final int MAX = Integer.MAX_VALUE;

    /**
     * Names 0 1 2, 0 1, 3 and 0 1 2. S0 tells 1, 2 and 3 in hour 1; S1 misses 1, who is in place 1 then;
     * S2 brings it to 1 in hour 5; S3 is not known to who would say it.
     */
    private static final String TOLD = "hill syllables 4 places 2 hours 6;"
        + "name 0 1 2;name 0 1;name 3;name 0 1 2;stammers 1 2;deaf 2 50;deaf 2 30;"
        + "goes 1 1 at 2;goes 1 0 at 4;knows 1 0 0;foe 1 0;foe 2 0;"
        + "says 0 0 1 at 1;says 0 0 2 at 2;says 2 0 2 at 5;says 2 0 0 at 5;";

    /** A HILL without FOLK. */
    private static final String BARE = "hill syllables 2 places 1 hours 3;";
    /** As many FOLK and HOURS as there can be; the last FOLK learns the name ahead of its own in the last HOUR. */
    private static final String LONGEST = "hill syllables 2 places 1 hours 24;name 0;name 1;name 0;name 1;name 0;name 1;"
        + "foe 5 4;says 4 4 0 at 23;";
    private static final String TWO = "hill syllables 2 places 1 hours 3;name 0 1;name 1;";

    private final Sentences s = new Sentences("EdgeTest");

    private EdgeTest() throws IOException {
    }

    public static void main(String[] args) throws IOException {
        EdgeTest test = new EdgeTest();
        test.theText();
        test.theHill();
        test.theSayings();
        test.wholeNames();
        test.countsOfNames();
        test.calls();
        test.callsOfAll();
        test.alikeNames();
        test.biddings();
        test.s.finish();
    }

    private static HalvedNames made(String text) {
        return Feeder.made(text);
    }

    private static HalvedNames none() {
        return new HalvedNames();
    }

    // ---- 1 to 5

    private void theText() {
        s.promise(1);
        s.says("No HILL.");
        for (int what = 0; what <= 7; what++) {
            s.due("count(" + what + ")", none().count(what), 0);
        }
        s.due("rings()", none().rings(), -2);
        s.due("unsay()", none().unsay(), -2);
        s.due("free(1)", none().free(1), -2);
        s.due("child(-1)", none().child(-1), -2);
        s.due("length(0)", none().length(0), -2);

        s.promise(2);
        s.says("Twenty bytes come behind the TAPE, four of each number, the highest first: how many it has;");
        HalvedNames x = none();
        // "hill syllables 2 pla" "ces 1 hours 7;      "
        s.due("feed", x.feed(0x68696c6c, 0x2073796c, 0x6c61626c, 0x65732032, 0x20706c61), 20);
        s.due("feed", x.feed(0x63657320, 0x3120686f, 0x75727320, 0x373b2020, 0x20202020), 40);
        s.due("hill()", x.hill(), 1);
        s.due("count(2)", x.count(2), 7);
        s.due("feed behind hill()", x.feed(-1, -1, -1, -1, -1), 20);
        s.due("hill() of bytes 255", x.hill(), -4);
        s.due("fault(1)", x.fault(1), 0);
        x.feed(0, 0, 0, 0, 0);
        x.end(3);
        s.due("feed behind end(3)", x.feed(0, 0, 0, 0, 0), 23);
        s.says("NONE, and none come, if it would have more than 1,400.");
        x = none();
        for (int i = 1; i <= 70; i++) {
            s.due("feed " + i, x.feed(0x20202020, 0x20202020, 0x20202020, 0x20202020, 0x20202020), 20 * i);
        }
        s.due("feed to 1,420", x.feed(1, 2, 3, 4, 5), -1);
        s.due("count(6)", x.count(6), 1400);
        x.end(1381);
        s.due("feed to 1,401", x.feed(1, 2, 3, 4, 5), -1);
        s.due("count(6)", x.count(6), 1381);
        x.end(1380);
        s.due("feed to 1,400", x.feed(0x20202020, 0x20202020, 0x20202020, 0x20202020, 0x20202020), 1400);
        s.due("hill(): none of them came", x.hill(), 0);

        s.promise(3);
        s.says("The TAPE has its first n bytes alone: n;");
        x = none();
        Feeder.put(x, "hill syllables 2 places 1 hours 1;name 0;name 1;");
        s.due("end(48)", x.end(48), 48);
        s.due("end(41)", x.end(41), 41);
        s.due("count(6)", x.count(6), 41);
        s.due("hill()", x.hill(), 2);
        s.due("end(0) of nothing", x.end(0), 0);
        x.feed(1, 2, 3, 4, 5);
        s.due("end(0)", x.end(0), 0);
        s.due("hill()", x.hill(), 0);
        s.says("NONE, and nothing happens, if it has not so many, or n is below 0.");
        x = none();
        s.due("end(1) of nothing", x.end(1), -1);
        x.feed(1, 2, 3, 4, 5);
        for (int n : new int[] {21, 1400, MAX, -1, -20, MIN}) {
            s.due("end(" + n + ")", x.end(n), -1);
            s.due("count(6)", x.count(6), 20);
        }

        s.promise(4);
        s.says("The TAPE (empty then) is the HILL (in place of another): how many LINES (0: there is none then).");
        x = none();
        s.due("hill() of an empty TAPE", x.hill(), 0);
        s.due("hill() of 17 lines", Feeder.hill(x, TOLD), 17);
        s.due("count(6)", x.count(6), 0);
        s.due("count(3)", x.count(3), 4);
        s.due("hill() in place of it", Feeder.hill(x, TWO), 3);
        s.due("count(3)", x.count(3), 2);
        s.due("count(4)", x.count(4), 0);
        s.due("knew(1, 0)", x.knew(1, 0), 0);
        s.due("folk(0, 2)", x.folk(0, 2), 0);
        s.due("folk(1, 0)", x.folk(1, 0), 1);
        s.due("place(1, 2)", x.place(1, 2), 0);
        s.due("hill() of blanks", Feeder.hill(x, "\n "), 0);
        s.due("rings(): there is none", x.rings(), -2);
        for (int what = 0; what <= 5; what++) {
            s.due("count(" + what + ")", x.count(what), 0);
        }
        s.says("-4: a FAULT (the TAPE is empty, all else stays).");
        x = made(TOLD);
        x.row(2, 1, 3);
        s.due("hill() with a FAULT", Feeder.hill(x, "hill syllables 2 places 1 hours 1;name 1 0;goes 0 1 at 0;"), -4);
        s.due("count(6)", x.count(6), 0);
        s.due("count(5)", x.count(5), 17);
        s.due("count(3)", x.count(3), 4);
        s.due("count(7)", x.count(7), 1);
        s.due("name(0, 0)", x.name(0, 0), 0);
        s.due("whole(1, 0)", x.whole(1, 0), 5);
        s.due("folk(2, 1)", x.folk(2, 1), 30);
        s.due("place(1, 2)", x.place(1, 2), 1);
        x = none();
        Feeder.hill(x, "?");
        s.due("rings(): still none", x.rings(), -2);

        s.promise(5);
        s.says("Of the latest hill(), what 0: its FAULT, 0 without, 1: its place (NONE without).");
        x = none();
        Feeder.hill(x, "  ?");
        s.due("fault(0)", x.fault(0), 1);
        s.due("fault(1)", x.fault(1), 2);
        Feeder.hill(x, "hill syllables 1 ");
        s.due("fault(0)", x.fault(0), 2);
        s.due("fault(1)", x.fault(1), 15);
        x.feed(0, 0, 0, 0, 0);
        s.due("fault(1): of the latest hill(), not of the TAPE", x.fault(1), 15);
        Feeder.hill(x, BARE + "name 0;".repeat(7));
        s.due("fault(0)", x.fault(0), 3);
        s.due("fault(1)", x.fault(1), BARE.length() + 42);
        x.hill();
        s.due("fault(0) of nothing", x.fault(0), 0);
        s.due("fault(1) of nothing", x.fault(1), -1);
        s.says("NONE for another what, and ahead of any (what 1).");
        for (int what : new int[] {-1, 2, 3, MIN, MAX}) {
            s.due("fault(" + what + ")", x.fault(what), -1);
            s.due("fault(" + what + ") ahead of any", none().fault(what), -1);
        }
        s.due("fault(1) ahead of any", none().fault(1), -1);
        s.due("fault(0) ahead of any", none().fault(0), 0);
    }

    // ---- 6 to 12

    private void theHill() {
        HalvedNames x = made(TOLD);
        s.promise(6);
        s.says("Syllable i of a FOLK's name.");
        s.due("name(0, 0)", x.name(0, 0), 0);
        s.due("name(0, 2): the last", x.name(0, 2), 2);
        s.due("name(3, 2): of the last", x.name(3, 2), 2);
        s.due("name(2, 0)", x.name(2, 0), 3);
        s.due("name(0, 5) of six", made(BARE + "name 0 0 0 0 0 1;").name(0, 5), 1);
        s.says("NONE: there is none such;");
        for (int i : new int[] {-1, 3, 6, MIN, MAX}) {
            s.due("name(0, " + i + ")", x.name(0, i), -1);
        }
        s.due("name(1, -1)", x.name(1, -1), -1);
        s.due("name(2, 1)", x.name(2, 1), -1);
        s.says("-2: there is no such FOLK.");
        s.bounds("name(folk, 0)", 0, 3, folk -> x.name(folk, 0));
        s.due("name(4, 9): both", x.name(4, 9), -2);
        s.due("name(0, 0)", none().name(0, 0), -2);

        s.promise(7);
        s.says("LENGTH of a FOLK's name.");
        s.due("length(0)", x.length(0), 3);
        s.due("length(2): the shortest", x.length(2), 1);
        s.due("length(0): the longest", made(BARE + "name 0 0 0 0 0 0;").length(0), 6);
        s.says("-2: there is none such.");
        s.bounds("length(folk)", 0, 3, x::length);
        s.due("length(0)", none().length(0), -2);

        s.promise(8);
        s.says("Of a FOLK, what 0: how it stammers, 1: deaf, 2: its foes, as bits.");
        s.due("folk(1, 0)", x.folk(1, 0), 2);
        s.due("folk(0, 0): without", x.folk(0, 0), 1);
        s.due("folk(2, 1)", x.folk(2, 1), 30);
        s.due("folk(0, 1): without", x.folk(0, 1), 0);
        s.due("folk(0, 2)", x.folk(0, 2), 6);
        s.due("folk(2, 2): none", x.folk(2, 2), 0);
        s.says("-2: there are none such.");
        s.bounds("folk(folk, 0)", 0, 3, folk -> x.folk(folk, 0));
        s.bounds("folk(0, what)", 0, 2, what -> x.folk(0, what));
        s.due("folk(0, 0)", none().folk(0, 0), -2);

        s.promise(9);
        s.says("PLACE of a FOLK in an HOUR.");
        s.due("place(1, 1)", x.place(1, 1), 0);
        s.due("place(1, 2)", x.place(1, 2), 1);
        s.due("place(1, 3)", x.place(1, 3), 1);
        s.due("place(1, 4)", x.place(1, 4), 0);
        s.says("-2: there are none such.");
        s.bounds("place(folk, 0)", 0, 3, folk -> x.place(folk, 0));
        s.bounds("place(0, hour)", 0, 5, hour -> x.place(0, hour));
        s.due("place(0, 0)", none().place(0, 0), -2);

        s.promise(10);
        s.says("Of a SAYING, what 0: who, 1: whose name, 2: syllable I, 3: its HOUR.");
        HalvedNames y = made(TOLD + "says 1 3 2 at 4;");
        s.due("saying(4, 0)", y.saying(4, 0), 1);
        s.due("saying(4, 1)", y.saying(4, 1), 3);
        s.due("saying(4, 2)", y.saying(4, 2), 2);
        s.due("saying(4, 3)", y.saying(4, 3), 4);
        s.due("saying(0, 3)", y.saying(0, 3), 1);
        s.says("-2: there are none such.");
        s.bounds("saying(saying, 0)", 0, 4, saying -> y.saying(saying, 0));
        s.bounds("saying(0, what)", 0, 3, what -> y.saying(0, what));
        s.due("saying(0, 0)", made(TWO).saying(0, 0), -2);

        s.promise(11);
        s.says("Syllables (bits) that a FOLK knows of another one's name ahead of all.");
        HalvedNames z = made(TOLD + "knows 3 1 1;knows 3 1 0;knows 2 0 2;");
        s.due("knew(1, 0)", z.knew(1, 0), 1);
        s.due("knew(3, 1)", z.knew(3, 1), 3);
        s.due("knew(2, 0)", z.knew(2, 0), 4);
        s.due("knew(0, 1)", z.knew(0, 1), 0);
        s.due("knew(1, 0): ahead of hour 0, too", made(TWO + "says 0 0 0 at 0;").knew(1, 0), 0);
        s.says("-2: there are none such.");
        s.bounds("knew(folk, 0)", 0, 3, folk -> z.knew(folk, 0));
        s.bounds("knew(0, other)", 0, 3, other -> z.knew(0, other));
        s.due("knew(0, 1)", none().knew(0, 1), -2);

        s.promise(12);
        s.says("Likewise behind an HOUR (of itself: all).");
        s.due("knows(2, 0, 0)", x.knows(2, 0, 0), 0);
        s.due("knows(2, 0, 1): behind it", x.knows(2, 0, 1), 2);
        s.due("knows(2, 0, 2)", x.knows(2, 0, 2), 6);
        s.due("knows(1, 0, 0)", x.knows(1, 0, 0), 1);
        s.due("knows(1, 0, 5): the last hour", x.knows(1, 0, 5), 7);
        s.due("knows(5, 4, 23): the last of all", made(LONGEST).knows(5, 4, 23), 1);
        s.due("knows(5, 4, 22)", made(LONGEST).knows(5, 4, 22), 0);
        s.due("knows(0, 0, 0)", x.knows(0, 0, 0), 7);
        s.due("knows(1, 1, 5)", x.knows(1, 1, 5), 3);
        s.says("-2 likewise.");
        s.bounds("knows(folk, 0, 0)", 0, 3, folk -> x.knows(folk, 0, 0));
        s.bounds("knows(0, other, 0)", 0, 3, other -> x.knows(0, other, 0));
        s.bounds("knows(0, 1, hour)", 0, 5, hour -> x.knows(0, 1, hour));
        s.due("knows(0, 0, 0)", none().knows(0, 0, 0), -2);
    }

    // ---- 13 to 15

    private void theSayings() {
        HalvedNames x = made(TOLD);
        s.promise(13);
        s.says("Whether a SAYING is said: 1, 0.");
        int[] said = {1, 1, 1, 0};
        for (int i = 0; i < said.length; i++) {
            s.due("said(" + i + ")", x.said(i), said[i]);
        }
        s.due("said(0): nobody hears it", made(BARE + "name 0;says 0 0 0 at 0;").said(0), 1);
        s.says("-2: there is none such.");
        s.bounds("said(saying)", 0, 3, x::said);
        s.due("said(0)", made(TWO).said(0), -2);
        s.due("said(0)", none().said(0), -2);
        s.due("said(11) of twelve", made(TWO + "says 0 0 0 at 0;".repeat(12)).said(11), 1);

        s.promise(14);
        s.says("FOLK that hear it (not who says it), as bits;");
        s.due("heard(0)", x.heard(0), 14);
        s.due("heard(1): 1 is elsewhere", x.heard(1), 12);
        s.due("heard(2): whose it is, too", x.heard(2), 11);
        s.due("heard(0): nobody", made(BARE + "name 0;says 0 0 0 at 0;").heard(0), 0);
        s.says("0: it is not said.");
        s.due("heard(3)", x.heard(3), 0);
        s.says("-2 likewise.");
        s.bounds("heard(saying)", 0, 3, x::heard);
        s.due("heard(0)", none().heard(0), -2);

        s.promise(15);
        s.says("Of these, who did not know it yet.");
        s.due("learnt(0)", x.learnt(0), 14);
        s.due("learnt(1)", x.learnt(1), 12);
        s.due("learnt(2): 0 and 3 knew it", x.learnt(2), 2);
        s.due("learnt(3): not said", x.learnt(3), 0);
        s.due("learnt(1): told twice", made(TWO + "says 0 0 0 at 1;says 0 0 0 at 1;").learnt(1), 0);
        s.due("learnt(0): told behind it", made(TWO + "says 0 0 0 at 1;says 0 0 0 at 0;").learnt(0), 0);
        s.due("learnt(0): known ahead of all", made(TWO + "knows 1 0 0;says 0 0 0 at 1;").learnt(0), 0);
        s.says("-2 likewise.");
        s.bounds("learnt(saying)", 0, 3, x::learnt);
        s.due("learnt(0)", none().learnt(0), -2);
    }

    // ---- 16 to 19

    private void wholeNames() {
        HalvedNames x = made(TOLD + "knows 3 1 0;knows 3 1 1;");
        s.promise(16);
        s.says("The first HOUR behind which a FOLK knows another one's name WHOLE.");
        s.due("whole(1, 0): the last hour", x.whole(1, 0), 5);
        s.due("whole(1, 0): hour 0", made(TWO + "says 0 0 0 at 0;says 0 0 1 at 0;").whole(1, 0), 0);
        s.due("whole(1, 0): the first of several", made(TWO + "says 0 0 0 at 0;says 0 0 1 at 1;says 0 0 1 at 2;")
            .whole(1, 0), 1);
        s.due("whole(5, 4): the last hour of all", made(LONGEST).whole(5, 4), 23);
        s.says("NONE: never;");
        s.due("whole(2, 0): one is missing", x.whole(2, 0), -1);
        s.due("whole(0, 1): nothing", x.whole(0, 1), -1);
        s.says("-3: ahead of all;");
        s.due("whole(3, 1)", x.whole(3, 1), -3);
        s.due("whole(1, 0), told again", made(TWO + "knows 1 0 0;knows 1 0 1;says 0 0 0 at 1;").whole(1, 0), -3);
        s.says("-2: there are none such, one twice.");
        for (int folk = 0; folk < 4; folk++) {
            s.due("whole of itself", x.whole(folk, folk), -2);
        }
        s.bounds("whole(folk, 3)", 0, 2, folk -> folk == 3 ? -2 : x.whole(folk, 3));
        s.bounds("whole(3, other)", 0, 2, other -> other == 3 ? -2 : x.whole(3, other));
        s.due("whole(4, 0)", x.whole(4, 0), -2);
        s.due("whole(0, 4)", x.whole(0, 4), -2);
        s.due("whole(4, 4)", x.whole(4, 4), -2);
        s.due("whole(0, 1)", none().whole(0, 1), -2);

        s.promise(17);
        s.says("FOLK (others) that know a name WHOLE behind an HOUR, as bits.");
        s.due("bidders(0, 4)", x.bidders(0, 4), 0);
        s.due("bidders(0, 5): the last hour", x.bidders(0, 5), 2);
        s.due("bidders(1, 0): known ahead of all", x.bidders(1, 0), 8);
        s.due("bidders(2, 5): not itself", x.bidders(2, 5), 0);
        HalvedNames one = made(BARE + "name 0;name 1;name 0;says 0 0 0 at 0;");
        s.due("bidders(0, 0): two", one.bidders(0, 0), 6);
        s.due("bidders(2, 0): a namesake is another one", one.bidders(2, 0), 0);
        s.says("-2: there are none such.");
        s.bounds("bidders(folk, 0)", 0, 3, folk -> x.bidders(folk, 0));
        s.bounds("bidders(0, hour)", 0, 5, hour -> x.bidders(0, hour));
        s.due("bidders(0, 0)", none().bidders(0, 0), -2);

        String foes = "hill syllables 2 places 1 hours 4;name 0;name 1;name 0 0;name 1 1;"
            + "foe 3 0;foe 2 0;foe 1 0;foe 3 1;foe 0 2;knows 3 1 0;says 0 0 0 at 2;";
        HalvedNames y = made(foes);
        s.promise(18);
        s.says("DANGER: the first HOUR behind which a foe of a FOLK knows its name WHOLE.");
        s.due("danger(0)", y.danger(0), 2);
        s.due("danger(0): in the first hour", made(TWO + "foe 1 0;says 0 0 0 at 0;says 0 0 1 at 0;").danger(0), 0);
        s.due("danger(0): in the last hour", made(TWO + "foe 1 0;says 0 0 0 at 0;says 0 0 1 at 2;").danger(0), 2);
        s.due("danger(4): in the last hour of all", made(LONGEST).danger(4), 23);
        s.due("danger(1): by FOLK 0", made(TWO + "foe 0 1;says 1 1 0 at 1;").danger(1), 1);
        s.says("NONE: never;");
        s.due("danger(2): its foe never does", y.danger(2), -1);
        s.due("danger(3): no foe", y.danger(3), -1);
        s.due("danger(4): no foe of six", made(LONGEST.replace("foe 5 4;", "knows 5 4 0;")).danger(4), -1);
        s.due("danger(1): who does is no foe", x.danger(1), -1);
        s.due("danger(0): whose foe it is does", made(TWO + "foe 0 1;says 0 0 0 at 0;says 0 0 1 at 0;").danger(0), -1);
        s.says("-3: ahead of all;");
        s.due("danger(1)", y.danger(1), -3);
        s.due("danger(0): one does, others later", made(foes + "knows 2 0 0;").danger(0), -3);
        s.says("-2: there is none such.");
        s.bounds("danger(folk)", 0, 3, y::danger);
        s.due("danger(0)", none().danger(0), -2);

        s.promise(19);
        s.says("The foe that knows it first, the least of several.");
        s.due("foe(0): three at once", y.foe(0), 1);
        s.due("foe(1)", y.foe(1), 3);
        s.due("foe(0): the second ahead of all", made(foes + "knows 2 0 0;").foe(0), 2);
        s.due("foe(0): two ahead of all", made(foes + "knows 3 0 0;knows 2 0 0;").foe(0), 2);
        s.due("foe(4): in the last hour of all", made(LONGEST).foe(4), 5);
        s.due("foe(1): FOLK 0", made(TWO + "foe 0 1;says 1 1 0 at 1;").foe(1), 0);
        s.says("NONE: none does;");
        s.due("foe(2)", y.foe(2), -1);
        s.due("foe(3)", y.foe(3), -1);
        s.says("-2 likewise.");
        s.bounds("foe(folk)", 0, 3, y::foe);
        s.due("foe(0)", none().foe(0), -2);
    }

    // ---- 20 to 22

    private void countsOfNames() {
        HalvedNames x = made(TOLD);
        s.promise(20);
        s.says("FOLK whose names no other one knows WHOLE behind an HOUR, as bits.");
        s.due("secrets(4)", x.secrets(4), 15);
        s.due("secrets(5)", x.secrets(5), 14);
        s.due("secrets(0): known ahead of all", made(TWO + "knows 0 1 0;").secrets(0), 1);
        s.due("secrets(0) of no FOLK", made(BARE).secrets(0), 0);
        s.due("secrets(2) of one", made(BARE + "name 0;").secrets(2), 1);
        s.says("-2: there is no such HOUR.");
        s.bounds("secrets(hour)", 0, 5, x::secrets);
        s.due("secrets(0)", none().secrets(0), -2);
        s.due("secrets(3) of no FOLK", made(BARE).secrets(3), -2);

        s.promise(21);
        s.says("How many syllables of other names a FOLK knows behind an HOUR, together.");
        s.due("lore(1, 0)", x.lore(1, 0), 1);
        s.due("lore(1, 1)", x.lore(1, 1), 2);
        s.due("lore(1, 5)", x.lore(1, 5), 3);
        s.due("lore(0, 5): not its own", x.lore(0, 5), 0);
        s.due("lore(3, 0): of two", made(TOLD + "knows 3 0 0;knows 3 1 1;knows 3 1 0;").lore(3, 0), 3);
        s.says("-2: there are none such.");
        s.bounds("lore(folk, 0)", 0, 3, folk -> x.lore(folk, 0));
        s.bounds("lore(0, hour)", 0, 5, hour -> x.lore(0, hour));
        s.due("lore(0, 0)", none().lore(0, 0), -2);

        s.promise(22);
        s.says("The FOLK that knows most then, the first of several.");
        s.due("wisest(0)", x.wisest(0), 1);
        s.due("wisest(2): three know two", x.wisest(2), 1);
        s.due("wisest(5)", x.wisest(5), 1);
        s.due("wisest(2): the last", made(TWO + "says 0 0 0 at 2;").wisest(2), 1);
        s.due("wisest(1): nobody knows a thing", made(TWO + "says 0 0 0 at 2;").wisest(1), 0);
        s.says("NONE: there are no FOLK;");
        s.due("wisest(0)", made(BARE).wisest(0), -1);
        s.due("wisest(2)", made(BARE).wisest(2), -1);
        s.says("-2: there is no such HOUR.");
        s.bounds("wisest(hour)", 0, 5, x::wisest);
        s.due("wisest(0)", none().wisest(0), -2);
        s.due("wisest(3) of no FOLK", made(BARE).wisest(3), -2);
    }

    // ---- 23 to 25

    /** 1 stammers 2, name 0 takes it four hours; 0 is away in hour 5; 2 learns name 0 in hour 3. */
    private static final String CALLS = "hill syllables 3 places 2 hours 8;name 0 1;name 2;name 1 1 1;"
        + "stammers 1 2;knows 1 0 0;knows 1 0 1;knows 0 1 0;goes 0 1 at 5;goes 0 0 at 6;"
        + "says 0 0 0 at 3;says 0 0 1 at 3;";

    private void calls() {
        HalvedNames x = made(CALLS);
        s.promise(23);
        s.says("CALL (II) from an HOUR: the HOUR in which the last syllable is said.");
        s.due("call(1, 0, 0)", x.call(1, 0, 0), 3);
        s.due("call(1, 0, 1)", x.call(1, 0, 1), 4);
        s.due("call(0, 1, 0): one syllable", x.call(0, 1, 0), 0);
        s.due("call(0, 1, 7): the last hour", x.call(0, 1, 7), 7);
        s.due("call(2, 0, 6): to the last hour", x.call(2, 0, 6), 7);
        s.says("-5: he does not know it WHOLE ahead of it;");
        s.due("call(2, 0, 0)", x.call(2, 0, 0), -5);
        s.due("call(2, 0, 3): only behind it", x.call(2, 0, 3), -5);
        s.due("call(2, 1, 7)", x.call(2, 1, 7), -5);
        s.due("call(2, 0, 3): elsewhere, too", made(CALLS + "goes 2 1 at 0;").call(2, 0, 3), -5);
        s.due("call(0, 2, 7): and the hours are over", x.call(0, 2, 7), -5);
        s.says("NONE: he whose it is goes, or the hours are over;");
        s.due("call(1, 0, 2)", x.call(1, 0, 2), -1);
        s.due("call(2, 0, 4): by the last syllable", x.call(2, 0, 4), -1);
        s.due("call(0, 1, 5): by the first", x.call(0, 1, 5), -1);
        s.due("call(2, 0, 7)", x.call(2, 0, 7), -1);
        s.due("call(1, 0, 6)", x.call(1, 0, 6), -1);
        s.says("-2: there are none such, one twice.");
        for (int folk = 0; folk < 3; folk++) {
            s.due("call of itself", x.call(folk, folk, 0), -2);
        }
        s.bounds("call(folk, 2, 0)", 0, 1, folk -> folk == 2 ? -2 : x.call(folk, 2, 0));
        s.bounds("call(2, other, 0)", 0, 1, other -> other == 2 ? -2 : x.call(2, other, 0));
        s.bounds("call(1, 0, hour)", 0, 7, hour -> x.call(1, 0, hour));
        s.due("call(3, 0, 0)", x.call(3, 0, 0), -2);
        s.due("call(0, 3, 0)", x.call(0, 3, 0), -2);
        s.due("call(2, 1, 8): not known either", x.call(2, 1, 8), -2);
        s.due("call(0, 1, 0)", none().call(0, 1, 0), -2);

        s.promise(24);
        s.says("The first HOUR from which it can be.");
        s.due("soonest(1, 0): the first", x.soonest(1, 0), 0);
        s.due("soonest(0, 1): in that hour alone", x.soonest(0, 1), 0);
        s.due("soonest(2, 0): neither 4 nor 5", x.soonest(2, 0), 6);
        s.says("NONE: from none;");
        s.due("soonest(2, 1): not known", x.soonest(2, 1), -1);
        s.due("soonest(1, 0): never in its PLACE", made(CALLS + "goes 1 1 at 0;goes 1 0 at 5;goes 1 1 at 6;")
            .soonest(1, 0), -1);
        s.due("soonest(1, 0): too few hours", made(TWO + "stammers 1 2;knows 1 0 0;knows 1 0 1;").soonest(1, 0), -1);
        s.due("soonest(1, 0): known in the last hour", made(TWO + "says 0 0 0 at 2;says 0 0 1 at 2;")
            .soonest(1, 0), -1);
        s.says("-2 likewise.");
        s.twoOfThree("soonest", x::soonest);

        s.promise(25);
        s.says("The last HOUR from which it can be.");
        s.due("latest(1, 0)", x.latest(1, 0), 1);
        s.due("latest(0, 1): the last", x.latest(0, 1), 7);
        s.due("latest(2, 0)", x.latest(2, 0), 6);
        s.due("latest(1, 0): the first", made(TWO + "name 0;knows 2 0 0;knows 2 0 1;knows 1 0 0;knows 1 0 1;stammers 2 1;"
            + "stammers 1 1;").latest(1, 0), 1);
        s.due("latest(0, 1): in hour 0 alone", made("hill syllables 2 places 2 hours 4;name 0 1;name 1;knows 0 1 0;"
            + "goes 0 1 at 1;").latest(0, 1), 0);
        s.due("latest(1, 0): from hour 0 alone", made("hill syllables 2 places 1 hours 4;name 0 1;name 1;stammers 1 2;"
            + "knows 1 0 0;knows 1 0 1;").latest(1, 0), 0);
        s.says("NONE, -2 likewise.");
        s.due("latest(2, 1)", x.latest(2, 1), -1);
        s.due("latest(1, 0): too few hours", made(TWO + "stammers 1 2;knows 1 0 0;knows 1 0 1;").latest(1, 0), -1);
        s.twoOfThree("latest", x::latest);
    }

    // ---- 26 to 28

    private void callsOfAll() {
        HalvedNames x = made(CALLS);
        s.promise(26);
        s.says("FOLK that can CALL a FOLK from an HOUR, as bits.");
        s.due("called(0, 0)", x.called(0, 0), 2);
        s.due("called(0, 2)", x.called(0, 2), 0);
        s.due("called(0, 6)", x.called(0, 6), 4);
        s.due("called(1, 7): not itself", x.called(1, 7), 1);
        s.due("called(2, 0)", x.called(2, 0), 0);
        s.due("called(1, 0): two", made(CALLS + "knows 2 1 0;").called(1, 0), 5);
        s.says("-2: there are none such.");
        s.bounds("called(folk, 0)", 0, 2, folk -> x.called(folk, 0));
        s.bounds("called(0, hour)", 0, 7, hour -> x.called(0, hour));
        s.due("called(0, 0)", none().called(0, 0), -2);

        s.promise(27);
        s.says("HOURS (bits) in which two are in one PLACE.");
        s.due("met(0, 1)", x.met(0, 1), 255 - 32);
        s.due("met(1, 2): all", x.met(1, 2), 255);
        s.due("met(0, 1): all of 24", made("hill syllables 2 places 2 hours 24;name 0;name 1;").met(0, 1), (1 << 24) - 1);
        s.due("met(0, 1): the last of 24", made("hill syllables 2 places 2 hours 24;name 0;name 1;goes 1 1 at 0;"
            + "goes 1 0 at 23;").met(0, 1), 1 << 23);
        s.due("met(0, 1): none", made("hill syllables 2 places 2 hours 24;name 0;name 1;goes 1 1 at 0;").met(0, 1), 0);
        s.says("-2: there are none such, one twice.");
        s.twoOfThree("met", x::met);
        s.due("met(0, 1)", none().met(0, 1), -2);

        HalvedNames y = made(TOLD);
        s.promise(28);
        s.says("How many others learn a syllable by each SAYING of a FOLK, together.");
        s.due("gossip(0): three and two", y.gossip(0), 5);
        s.due("gossip(2): one, and none by what is not said", y.gossip(2), 1);
        s.due("gossip(1): it says nothing", y.gossip(1), 0);
        s.due("gossip(0): told twice", made(TWO + "says 0 0 0 at 0;says 0 0 0 at 1;says 0 0 1 at 1;").gossip(0), 2);
        s.says("-2: there is none such.");
        s.bounds("gossip(folk)", 0, 3, y::gossip);
        s.due("gossip(0)", none().gossip(0), -2);
    }

    // ---- 29 and 30

    private void alikeNames() {
        HalvedNames x = made("hill syllables 3 places 1 hours 1;name 0 1;name 0;name 0 1 2;name 0 1;name 1;name 0 2;");
        s.promise(29);
        s.says("FOLK that OBEY a FOLK's name, as bits (itself, too).");
        s.due("obey(0)", x.obey(0), 11);
        s.due("obey(1): itself alone", x.obey(1), 2);
        s.due("obey(2)", x.obey(2), 15);
        s.due("obey(3)", x.obey(3), 11);
        s.due("obey(4)", x.obey(4), 16);
        s.due("obey(5)", x.obey(5), 34);
        s.says("-2: there is none such.");
        s.bounds("obey(folk)", 0, 5, x::obey);
        s.due("obey(0)", none().obey(0), -2);

        s.promise(30);
        s.says("NAMESAKES: other FOLK with the same name, as bits.");
        s.due("namesakes(0)", x.namesakes(0), 8);
        s.due("namesakes(3)", x.namesakes(3), 1);
        s.due("namesakes(1): the beginning alone", x.namesakes(1), 0);
        s.due("namesakes(5)", x.namesakes(5), 0);
        s.due("namesakes(1) of three", made(BARE + "name 0;name 0;name 0;").namesakes(1), 5);
        s.says("-2 likewise.");
        s.bounds("namesakes(folk)", 0, 5, x::namesakes);
        s.due("namesakes(0)", none().namesakes(0), -2);
    }

    // ---- 31 to 33

    private static final String CHAIN = "hill syllables 5 places 1 hours 1;name 0 1;name 2;name 3;name 4 4;name 1;"
        + "knows 0 1 0;knows 1 2 0;knows 0 3 0;knows 2 3 1;knows 2 0 0;knows 2 0 1;knows 3 4 0;";
    private static final String TWO_WAYS = "hill syllables 4 places 1 hours 1;name 0;name 1;name 2;name 3;"
        + "knows 0 1 0;knows 0 2 0;knows 1 3 0;knows 2 3 0;";

    private void biddings() {
        HalvedNames x = made(CHAIN);
        s.promise(31);
        s.says("UNDER (III): FOLK that a FOLK brings under (itself aside), as bits.");
        s.due("under(0): all others", x.under(0), 30);
        s.due("under(1)", x.under(1), 29);
        s.due("under(2)", x.under(2), 27);
        s.due("under(3): one", x.under(3), 16);
        s.due("under(4): none", x.under(4), 0);
        s.says("-2: there is none such.");
        s.bounds("under(folk)", 0, 4, x::under);
        s.due("under(0)", none().under(0), -2);

        s.promise(32);
        s.says("The fewest biddings till another one is bidden (that one, too).");
        s.due("biddings(0, 1): that one alone", x.biddings(0, 1), 1);
        s.due("biddings(0, 2)", x.biddings(0, 2), 2);
        s.due("biddings(0, 3)", x.biddings(0, 3), 3);
        s.due("biddings(0, 4)", x.biddings(0, 4), 4);
        s.due("biddings(0, 3): two ways", made(TWO_WAYS).biddings(0, 3), 2);
        s.due("biddings(0, 5): five", made("hill syllables 6 places 1 hours 1;name 0;name 1;name 2;name 3;name 4;name 5;"
            + "knows 0 1 0;knows 1 2 0;knows 2 3 0;knows 3 4 0;knows 4 5 0;").biddings(0, 5), 5);
        s.says("NONE: it can't be;");
        s.due("biddings(4, 0)", x.biddings(4, 0), -1);
        s.due("biddings(3, 0)", x.biddings(3, 0), -1);
        s.says("-2: there are none such, one twice.");
        HalvedNames three = made("hill syllables 2 places 1 hours 1;name 0;name 1;name 1;knows 0 1 0;");
        s.twoOfThree("biddings", three::biddings);
        s.due("biddings(0, 1)", none().biddings(0, 1), -2);

        s.promise(33);
        s.says("Whom, as bits: the least set of so few.");
        s.due("via(0, 1): that one", x.via(0, 1), 2);
        s.due("via(0, 3)", x.via(0, 3), 14);
        s.due("via(0, 4)", x.via(0, 4), 30);
        s.due("via(1, 4)", x.via(1, 4), 29);
        s.due("via(0, 3): the least of two", made(TWO_WAYS).via(0, 3), 10);
        s.due("via(0, 3): fewer, though not least", made(TWO_WAYS + "knows 0 3 0;").via(0, 3), 8);
        s.says("NONE, -2 likewise.");
        s.due("via(4, 0)", x.via(4, 0), -1);
        s.due("via(3, 1)", x.via(3, 1), -1);
        s.twoOfThree("via", three::via);
        s.due("via(0, 1)", none().via(0, 1), -2);
    }
}
