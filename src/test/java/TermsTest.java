import java.io.IOException;

/** The document's Terms (I to VII), sentence by sentence, with their bounds, FAULTS and SLOTS. */
public final class TermsTest {
    private static final String HILL = "hill syllables 3 places 2 hours 4;";
    /** Two FOLK, names of two syllables and of one; it ends at byte 50. */
    private static final String TWO = HILL + "name 0 1;name 2;";

    private final Sentences s = new Sentences("TermsTest");

    private TermsTest() throws IOException {
    }

    public static void main(String[] args) throws IOException {
        TermsTest test = new TermsTest();
        test.s.in("Terms");
        test.lines();
        test.hillFirst();
        test.bounds();
        test.folkAndSyllables();
        test.placesAndHours();
        test.laterOnes();
        test.tokens();
        test.faults();
        test.slots();
        test.knowing();
        test.calling();
        test.bidding();
        test.hushing();
        test.giving();
        test.freeing();
        test.drawing();
        test.order();
        test.s.finish();
    }

    private static HalvedNames made(String text) {
        return Feeder.made(text);
    }

    private static void setRow(HalvedNames x, int slot, int width, long... numbers) {
        x.row(slot, width, numbers.length);
        for (int i = 0; i < numbers.length; i++) {
            x.write(slot, i, numbers[i]);
        }
    }

    private void good(String text, int lines) {
        HalvedNames x = new HalvedNames();
        s.due("hill() of " + text, Feeder.hill(x, text), lines);
        s.due("fault(0) of " + text, x.fault(0), 0);
        s.due("fault(1) of " + text, x.fault(1), -1);
    }

    private void faulty(String text, int fault, int place) {
        HalvedNames x = new HalvedNames();
        s.due("hill() of " + text, Feeder.hill(x, text), -4);
        s.due("fault(0) of " + text, x.fault(0), fault);
        s.due("fault(1) of " + text, x.fault(1), place);
    }

    /** The text goes on with something, and the FAULT is so many bytes behind its beginning. */
    private void faultyOn(String more, int fault, int behind) {
        faulty(TWO + more, fault, TWO.length() + behind);
    }

    // ---- I

    private void lines() {
        s.says("I. HILL: {LINE ;}.");
        good("", 0);
        good(" \n \n", 0);
        good(HILL, 1);
        good(TWO, 3);
        faulty(";", 1, 0);
        faulty(HILL + ";", 1, 34);
        faulty("hill syllables 3 places 2 hours 4", 1, 33);
        s.says("LINE: hill syllables N places N hours N | name S {S} | stammers F N | deaf F N | goes F P at H "
            + "| knows F F I | says F F I at H | foe F F.");
        good(TWO + "name 0;stammers 0 1;deaf 0 1;goes 0 1 at 1;knows 0 1 0;says 0 1 0 at 1;foe 0 1;", 10);
        eachTokenLeftOut("hill syllables 3 places 2 hours 4;", "");
        eachTokenLeftOut("name 0;", TWO);
        eachTokenLeftOut("stammers 0 1;", TWO);
        eachTokenLeftOut("deaf 0 1;", TWO);
        eachTokenLeftOut("goes 0 1 at 1;", TWO);
        eachTokenLeftOut("knows 0 1 0;", TWO);
        eachTokenLeftOut("says 0 1 0 at 1;", TWO);
        eachTokenLeftOut("foe 0 1;", TWO);
        faultyOn("stammers 0 1 1;", 1, 13);
        faultyOn("deaf 0 1 1;", 1, 9);
        faultyOn("goes 0 1 at 1 1;", 1, 14);
        faultyOn("knows 0 1 0 at 1;", 1, 12);
        faultyOn("says 0 1 0 at 1 1;", 1, 16);
        faultyOn("foe 0 1 0;", 1, 8);
    }

    /** Words and signs are no numbers and numbers no words, so the TOKEN in its place can't stand there. */
    private void eachTokenLeftOut(String line, String ahead) {
        String[] tokens = line.replace(";", " ;").split(" ");
        for (int k = 0; k < tokens.length; k++) {
            if (k + 1 < tokens.length && isNumber(tokens[k]) && isNumber(tokens[k + 1])) {
                continue;
            }
            StringBuilder text = new StringBuilder(ahead);
            int place = -1;
            for (int i = 0; i < tokens.length; i++) {
                if (i == k + 1) {
                    place = text.length();
                }
                if (i != k) {
                    text.append(tokens[i]).append(i < tokens.length - 1 ? " " : "");
                }
            }
            faulty(text.toString(), 1, place < 0 ? text.length() : place);
        }
    }

    private static boolean isNumber(String token) {
        return Character.isDigit(token.charAt(0));
    }

    private void hillFirst() {
        s.says("hill is the first LINE and no other:");
        good(HILL, 1);
        faulty("name 0;", 1, 0);
        faulty(" foe 0 1;" + HILL, 1, 1);
        faulty("places 2", 1, 0);
        faulty(HILL + HILL, 1, 34);
        faulty(TWO + HILL, 1, 50);
    }

    private void bounds() {
        s.says("syllables 2 .. 9,");
        for (int n = 2; n <= 9; n++) {
            s.due("count(0)", made("hill syllables " + n + " places 1 hours 1;").count(0), n);
        }
        faulty("hill syllables 0 places 1 hours 1;", 2, 15);
        faulty("hill syllables 1 places 1 hours 1;", 2, 15);
        faulty("hill syllables 10 places 1 hours 1;", 2, 15);
        s.says("places 1 .. 4,");
        for (int n = 1; n <= 4; n++) {
            s.due("count(1)", made("hill syllables 2 places " + n + " hours 1;").count(1), n);
        }
        faulty("hill syllables 2 places 0 hours 1;", 2, 24);
        faulty("hill syllables 2 places 5 hours 1;", 2, 24);
        s.says("hours 1 .. 24.");
        for (int n = 1; n <= 24; n++) {
            s.due("count(2)", made("hill syllables 2 places 1 hours " + n + ";").count(2), n);
        }
        faulty("hill syllables 2 places 1 hours 0;", 2, 32);
        faulty("hill syllables 2 places 1 hours 25;", 2, 32);
        s.says("stammers 1 .. 4,");
        for (int n = 1; n <= 4; n++) {
            s.due("folk(0, 0)", made(TWO + "stammers 0 " + n + ";").folk(0, 0), n);
        }
        faultyOn("stammers 0 0;", 2, 11);
        faultyOn("stammers 0 5;", 2, 11);
        s.says("deaf 0 .. 100");
        for (int n : new int[] {0, 1, 99, 100}) {
            s.due("folk(1, 1)", made(TWO + "deaf 1 " + n + ";").folk(1, 1), n);
        }
        faultyOn("deaf 1 101;", 2, 7);
        faultyOn("deaf 1 1000000000000;", 2, 7);
    }

    private void folkAndSyllables() {
        s.says("S: 0 .. syllables less 1,");
        good(HILL + "name 0;name 2;", 3);
        faulty(HILL + "name 3;", 2, 39);
        faulty(HILL + "name 0 2 3;", 2, 43);
        good("hill syllables 9 places 1 hours 1;name 8;", 2);
        faulty("hill syllables 9 places 1 hours 1;name 9;", 2, 39);
        s.says("at most six.");
        faulty(HILL + "name;", 1, 38);
        for (int n = 1; n <= 6; n++) {
            s.due("length(0)", made(HILL + "name" + " 1".repeat(n) + ";").length(0), n);
        }
        faulty(HILL + "name 1 1 1 1 1 1 1;", 3, 51);
        s.says("F: a FOLK told ahead (two: unlike ones, but of says).");
        faulty(HILL + "stammers 0 1;name 0;", 2, 43);
        for (String line : new String[] {"stammers # 1;", "deaf # 1;", "goes # 1 at 1;"}) {
            int at = line.indexOf('#');
            good(TWO + line.replace('#', '0'), 4);
            good(TWO + line.replace('#', '1'), 4);
            faultyOn(line.replace('#', '2'), 2, at);
            faultyOn(line.replace('#', '2') + "name 0;", 2, at);
        }
        for (String line : new String[] {"knows # 0;", "foe #;"}) {
            int at = line.indexOf('#');
            good(TWO + line.replace("#", "0 1"), 4);
            good(TWO + line.replace("#", "1 0"), 4);
            faultyOn(line.replace("#", "2 0"), 2, at);
            faultyOn(line.replace("#", "0 2"), 2, at + 2);
            faultyOn(line.replace("#", "0 0"), 2, at + 2);
            faultyOn(line.replace("#", "1 1"), 2, at + 2);
        }
        good(TWO + "says 0 0 0 at 1;says 1 1 0 at 1;says 0 1 0 at 1;says 1 0 0 at 1;", 7);
        faultyOn("says 2 0 0 at 1;", 2, 5);
        faultyOn("says 0 2 0 at 1;", 2, 7);
        s.says("I: a number in the name of the second F (0 .. its LENGTH less 1).");
        good(TWO + "knows 1 0 0;knows 1 0 1;knows 0 1 0;", 6);
        faultyOn("knows 1 0 2;", 2, 10);
        faultyOn("knows 0 1 1;", 2, 10);
        good(TWO + "says 1 0 0 at 1;says 1 0 1 at 1;says 0 1 0 at 1;", 6);
        faultyOn("says 1 0 2 at 1;", 2, 9);
        faultyOn("says 0 1 1 at 1;", 2, 9);
    }

    private void placesAndHours() {
        s.says("P: 0 .. places less 1;");
        good(TWO + "goes 0 0 at 0;goes 0 1 at 0;", 5);
        faultyOn("goes 0 2 at 0;", 2, 7);
        faulty("hill syllables 2 places 1 hours 1;name 0;goes 0 1 at 0;", 2, 48);
        s.says("H an HOUR: 0 .. hours less 1.");
        good(TWO + "goes 0 0 at 0;goes 0 0 at 3;says 0 0 0 at 0;says 0 0 0 at 3;", 7);
        faultyOn("goes 0 0 at 4;", 2, 12);
        faultyOn("says 0 0 0 at 4;", 2, 14);
        good("hill syllables 2 places 1 hours 24;name 0;says 0 0 0 at 23;goes 0 0 at 23;", 4);
    }

    private void laterOnes() {
        s.says("(a later one of that FOLK strikes; 1, 0 without).");
        HalvedNames x = made(TWO + "stammers 0 4;deaf 0 100;stammers 0 2;deaf 0 0;stammers 1 3;deaf 1 7;");
        s.due("folk(0, 0)", x.folk(0, 0), 2);
        s.due("folk(0, 1)", x.folk(0, 1), 0);
        s.due("folk(1, 0)", x.folk(1, 0), 3);
        s.due("folk(1, 1)", x.folk(1, 1), 7);
        x = made(TWO + "stammers 0 4;deaf 0 9;");
        s.due("folk(1, 0) without", x.folk(1, 0), 1);
        s.due("folk(1, 1) without", x.folk(1, 1), 0);
        Feeder.hill(x, TWO);
        s.due("folk(0, 0) in another hill", x.folk(0, 0), 1);
        s.due("folk(0, 1) in another hill", x.folk(0, 1), 0);
        s.says("goes: the PLACE from that HOUR on till the next such (a later LINE of that HOUR strikes; "
            + "0 ahead of all).");
        x = made("hill syllables 2 places 4 hours 6;name 0;name 1;goes 0 3 at 4;goes 0 2 at 1;goes 0 1 at 1;");
        int[] places = {0, 1, 1, 1, 3, 3};
        for (int hour = 0; hour < places.length; hour++) {
            s.due("place(0, " + hour + ")", x.place(0, hour), places[hour]);
            s.due("place(1, " + hour + ")", x.place(1, hour), 0);
        }
        x = made("hill syllables 2 places 4 hours 2;name 0;goes 0 2 at 0;");
        s.due("place(0, 0) from the first hour on", x.place(0, 0), 2);
        s.due("place(0, 1)", x.place(0, 1), 2);
        s.says("foe: the first is a foe of the second.");
        x = made(TWO + "foe 1 0;foe 1 0;");
        s.due("folk(0, 2)", x.folk(0, 2), 2);
        s.due("folk(1, 2)", x.folk(1, 2), 0);
        s.says("FOLK 0 .. 5, SAYINGS 0 .. 11 are numbered as they stand.");
        x = made(HILL + "name 0;name 1;name 2;name 0 0;name 1 1;name 2 2;says 0 0 0 at 3;says 5 5 1 at 0;"
            + "says 4 5 1 at 2;".repeat(10));
        s.due("count(3)", x.count(3), 6);
        s.due("count(4)", x.count(4), 12);
        for (int folk = 0; folk < 6; folk++) {
            s.due("name(" + folk + ", 0)", x.name(folk, 0), folk % 3);
            s.due("length(" + folk + ")", x.length(folk), 1 + folk / 3);
        }
        s.due("saying(0, 0)", x.saying(0, 0), 0);
        s.due("saying(1, 0)", x.saying(1, 0), 5);
        s.due("saying(11, 0)", x.saying(11, 0), 4);
        s.due("saying(12, 0)", x.saying(12, 0), -2);
        s.due("length(6)", x.length(6), -2);
    }

    // ---- TOKENS, FAULTS, SLOTS

    private void tokens() {
        s.says("TOKENS, blanks (32, 10) aside, the longest:");
        good("\n\n hill\nsyllables \n3 places 2 hours\n4\n;\n \n", 1);
        good("hill syllables3places2hours4;name0 1;name 2;", 3);
        faulty("hill syllables 3 places 2 hours 4;name 1name;", 1, 40);
        faulty("hillsyllables 3", 1, 0);
        faulty("hill syllables 3 3", 1, 17);
        faulty("hill syllables 33 places", 2, 15);
        faulty("hill sylla bles 3", 1, 5);
        for (char c : new char[] {0, 9, 11, 12, 13, 31, 33, 127, 128, 160, 255}) {
            faulty(HILL + c, 1, 34);
        }
        s.says("words (a .. z),");
        for (char c : new char[] {'`', '{', 'A', 'Z', '@', '[', 'a' + 128, 'z' + 128}) {
            faulty("hill" + c + "syllables 3", 1, 4);
        }
        faulty("Hill", 1, 0);
        faulty("hilla", 1, 0);
        faulty("hil", 1, 0);
        faulty("hillz syllables", 1, 0);
        faulty("mill syllables 3 places 2 hours 4;", 1, 0);
        faulty("hill tyllables 3 places 2 hours 4;", 1, 5);
        faulty("hill syllables 3 places 2 hourz 4;", 1, 26);
        faulty("\u00e8ill syllables 3 places 2 hours 4;", 1, 0);
        s.says("numbers (digits),");
        for (char c : new char[] {'/', ':', '0' + 128, '9' + 128}) {
            faulty("hill syllables 3" + c, 1, 16);
        }
        good("hill syllables 0003 places 00000000000000000002 hours 04;name 00 1;", 2);
        faulty("hill syllables -3 places", 1, 15);
        faulty("hill syllables +3 places", 1, 15);
        for (String big : new String[] {"2147483647", "2147483651", "4294967299", "18446744073709551619",
            "10000000000000000000000000003"}) {
            faulty("hill syllables " + big + " places", 2, 15);
        }
        s.says("the sign ; .");
        good(HILL + "name 1;name 1 ;", 3);
        faulty(HILL + "name 1:", 1, 40);
        faulty(HILL + "name 1<", 1, 40);
        faulty(HILL + "name 1,", 1, 40);
        faulty(HILL + ";;", 1, 34);
    }

    private void faults() {
        s.says("FAULTS, the first by its place (a TOKEN's first byte; the end's),");
        faultyOn("deaf 0 1000 ?", 2, 7);
        faultyOn("name ? 9;", 1, 5);
        faultyOn("name 0 9 ?;", 2, 7);
        faultyOn("name 0", 1, 6);
        faultyOn("name 0 \n ", 1, 9);
        faultyOn("name", 1, 4);
        faultyOn("says 0 0 0 at", 1, 13);
        s.says("of one place the least:");
        faultyOn("name 0 0 0 0 0 0 3;", 2, 17);
        faultyOn("name 0 0 0 0 0 0 at;", 1, 17);
        faultyOn("name 0 0 0 0 0 0 ?;", 1, 17);
        faultyOn("name 0 0 0 0 0 0", 1, 16);
        s.says("1 a TOKEN that is none, or can't stand there (hill behind the first LINE, another word ahead of it).");
        faultyOn("?", 1, 0);
        faultyOn("7", 1, 0);
        faultyOn(";", 1, 0);
        faultyOn("at", 1, 0);
        faultyOn("nobody 0;", 1, 0);
        faultyOn("hill syllables 3 places 2 hours 4;", 1, 0);
        faulty("says 0 0 0 at 1;", 1, 0);
        faulty("syllables 3", 1, 0);
        faulty("hill hill", 1, 5);
        s.says("2 a number out of its bounds, not as said.");
        faultyOn("name 3;", 2, 5);
        faultyOn("foe 0 0;", 2, 6);
        faultyOn("knows 0 0 9;", 2, 8);
        s.says("3 a 7th name, 13th says, at its word;");
        String six = HILL + "name 0;name 0;name 0;name 0;name 0;name 0;";
        good(six, 7);
        faulty(six + "name 0;", 3, six.length());
        faulty(six + "name 9;", 3, six.length());
        faulty(six + " \nname ?", 3, six.length() + 2);
        faulty(six + "name", 3, six.length());
        String twelve = TWO + "says 0 0 0 at 0;".repeat(12);
        good(twelve, 15);
        good(twelve + "name 0;", 16);
        faulty(twelve + "says 0 0 0 at 0;", 3, twelve.length());
        faulty(twelve + "says 9 0 0 at 0;", 3, twelve.length());
        faulty(twelve + "says", 3, twelve.length());
        s.says("a seventh S, at it.");
        good(HILL + "name 0 1 2 0 1 2;", 2);
        faulty(HILL + "name 0 1 2 0 1 2 0;", 3, 51);
        faulty(HILL + "name 0 1 2 0 1 2  0 9 ?", 3, 52);
    }

    private void slots() {
        s.says("SLOTS 0 .. 3 have rows of numbers of 1, 2, 4 or 8 bytes (WIDTH 0 .. 3), at most 60, or nothing.");
        HalvedNames x = new HalvedNames();
        s.due("count(7)", x.count(7), 0);
        s.bounds("row(slot, 0, 1)", 0, 3, slot -> new HalvedNames().row(slot, 0, 1));
        s.bounds("row(0, width, 1)", 0, 3, width -> new HalvedNames().row(0, width, 1));
        s.due("row(0, 0, 60)", x.row(0, 0, 60), 0);
        s.due("row(1, 3, 60)", x.row(1, 3, 60), 0);
        s.due("write(1, 59, 1)", x.write(1, 59, 1), 0);
        s.due("row(2, 0, 61)", x.row(2, 0, 61), -2);
        s.due("row(2, 0, 0): a row of none", x.row(2, 0, 0), 0);
        s.due("count(7)", x.count(7), 3);
        s.due("write(3, 0, 0): nothing", x.write(3, 0, 0), -6);
        s.due("write(2, 0, 0): a row of none", x.write(2, 0, 0), -7);
    }

    // ---- II

    private void knowing() {
        s.says("II. One knows one's own name whole,");
        HalvedNames x = made(TWO + "says 0 0 1 at 3;");
        s.due("knows(0, 0, 0)", x.knows(0, 0, 0), 3);
        s.due("knew(0, 0)", x.knew(0, 0), 3);
        s.due("knows(1, 1, 0)", x.knows(1, 1, 0), 1);
        s.due("said(0): his own", x.said(0), 1);
        s.says("of others what is told (knows).");
        x = made(TWO + "knows 1 0 1;");
        s.due("knew(1, 0)", x.knew(1, 0), 2);
        s.due("knew(0, 1)", x.knew(0, 1), 0);
        s.says("In each HOUR its SAYINGS come one by one, as they are numbered:");
        x = made(TWO + "says 1 0 0 at 2;says 0 0 0 at 2;says 1 0 0 at 2;says 0 0 1 at 1;says 1 0 1 at 2;");
        s.due("said(0): ahead of it in that hour", x.said(0), 0);
        s.due("said(2): behind it", x.said(2), 1);
        s.due("said(4): told in an hour ahead", x.said(4), 1);
        s.says("who says it says syllable I of a name, if he knows it then;");
        s.due("said(1)", x.said(1), 1);
        x = made(TWO + "knows 1 0 0;says 1 0 0 at 0;says 1 0 1 at 0;");
        s.due("said(0): known", x.said(0), 1);
        s.due("said(1): not known", x.said(1), 0);
        s.says("all FOLK in his PLACE know it from then on.");
        x = made(TWO + "name 1;name 2 2;goes 1 1 at 1;goes 2 1 at 2;says 0 0 0 at 1;");
        s.due("heard(0)", x.heard(0), 12);
        s.due("knows(2, 0, 0)", x.knows(2, 0, 0), 0);
        s.due("knows(2, 0, 1)", x.knows(2, 0, 1), 1);
        s.due("knows(2, 0, 3)", x.knows(2, 0, 3), 1);
        s.due("knows(1, 0, 3): elsewhere", x.knows(1, 0, 3), 0);
        s.says("WHOLE: all syllables of a name are known.");
        x = made(TWO + "knows 1 0 0;says 0 0 1 at 2;");
        s.due("whole(1, 0)", x.whole(1, 0), 2);
        s.due("bidders(0, 1): one is not known", x.bidders(0, 1), 0);
        s.due("bidders(0, 2)", x.bidders(0, 2), 2);
    }

    private void calling() {
        String known = "hill syllables 3 places 2 hours 8;name 0 1;name 2;knows 1 0 0;";
        s.says("CALL: who knows a name WHOLE ahead of an HOUR can say it from then on:");
        HalvedNames x = made(known + "says 0 0 1 at 2;");
        s.due("call(1, 0, 2): known behind it, not ahead", x.call(1, 0, 2), -5);
        s.due("call(1, 0, 3)", x.call(1, 0, 3), 4);
        s.due("call(1, 0, 6)", x.call(1, 0, 6), 7);
        s.due("call(1, 0, 0): known ahead of all", made(known + "knows 1 0 1;").call(1, 0, 0), 1);
        s.says("each syllable takes him as many HOURS as he stammers (1 .. 4);");
        for (int n = 1; n <= 4; n++) {
            x = made(known + "knows 1 0 1;stammers 0 4;stammers 1 " + n + ";");
            s.due("call(1, 0, 0) by " + n, x.call(1, 0, 0), 2 * n - 1);
        }
        s.says("he whose it is must be in his PLACE in all of these,");
        for (int hour = 0; hour < 6; hour++) {
            x = made(known + "knows 1 0 1;stammers 1 2;");
            x.move(0, 1, hour);
            s.due("call(1, 0, 1), away at " + hour, x.call(1, 0, 1), hour >= 1 && hour <= 4 ? -1 : 4);
        }
        x = made(known + "knows 1 0 1;goes 0 1 at 0;goes 1 1 at 0;");
        s.due("call(1, 0, 0) in another place", x.call(1, 0, 0), 1);
        s.says("and they be within the hours.");
        x = made(known + "knows 1 0 1;stammers 1 4;");
        s.due("call(1, 0, 0): all the hours", x.call(1, 0, 0), 7);
        s.due("call(1, 0, 1): one too many", x.call(1, 0, 1), -1);
        s.due("call(1, 0, 7)", x.call(1, 0, 7), -1);
        s.says("OBEY: by a name those whose own is the beginning of it, or all.");
        x = made(HILL + "name 0 1;name 0;name 0 1 2;name 0 1;name 1;name 0 2;");
        s.due("obey(0)", x.obey(0), 1 + 2 + 8);
        s.due("obey(1)", x.obey(1), 2);
        s.due("obey(2)", x.obey(2), 1 + 2 + 4 + 8);
        s.due("obey(5)", x.obey(5), 2 + 32);
    }

    // ---- III to VII

    private void bidding() {
        s.says("III. UNDER: who knows a name WHOLE behind all HOURS may bid him whose it is, one by one;");
        String three = "hill syllables 4 places 1 hours 2;name 0;name 1;name 2 3;";
        HalvedNames x = made(three + "says 1 1 0 at 1;");
        s.due("under(0): told in the last hour", x.under(0), 2);
        s.due("under(2)", x.under(2), 2);
        s.due("under(1)", x.under(1), 0);
        s.due("under(0): half a name", made(three + "knows 0 2 0;").under(0), 0);
        s.says("who is bidden tells all that he knows (his own name WHOLE, too).");
        x = made(three + "knows 0 1 0;knows 0 2 1;knows 1 2 0;");
        s.due("under(0): halves of two", x.under(0), 6);
        s.due("via(0, 2)", x.via(0, 2), 6);
        s.due("under(1): half a name", x.under(1), 0);
        x = made(three + "knows 0 1 0;knows 1 0 0;");
        s.due("under(0): itself aside", x.under(0), 2);
        s.due("under(1)", x.under(1), 1);
    }

    private void hushing() {
        s.says("IV. HUSHED: SAYINGS that are not said (all others as they come then).");
        HalvedNames x = made("hill syllables 2 places 2 hours 4;name 0;name 1;name 1 1;goes 2 1 at 0;goes 2 0 at 1;"
            + "says 0 0 0 at 0;says 1 0 0 at 1;says 1 1 0 at 2;");
        s.due("traced(2, 0): the second comes by the first", x.traced(2, 0), 3);
        s.due("traced(2, 1)", x.traced(2, 1), 4);
        s.due("traced(1, 0)", x.traced(1, 0), 1);
        s.due("said(1): none is hushed for good", x.said(1), 1);
        x.say(0, 0, 0, 3);
        s.due("traced(2, 0): said again", x.traced(2, 0), 0);
        s.due("hushed(2, 0)", x.hushed(2, 0), 9);
    }

    private void giving() {
        s.says("V. GIVE: of a name of n syllables each one is given to some of FOLK 0 .. 5 (whatever there are),");
        HalvedNames x = new HalvedNames();
        setRow(x, 0, 0, 32);
        setRow(x, 1, 0);
        s.due("give(1, 0, 1) without a hill", x.give(1, 0, 1), 1);
        s.due("given(1, 0, 1, 0): to the sixth", x.given(1, 0, 1, 0), 32);
        s.due("give(4, 1, 1): each to some", x.give(4, 1, 1), 4);
        s.due("given(4, 1, 1, 3)", x.given(4, 1, 1, 3), 1);
        s.says("so that of each set of a SLOT of friends (bits) all syllables are had together,");
        setRow(x, 0, 0, 6, 24);
        s.due("give(2, 0, 1)", x.give(2, 0, 1), 4);
        s.due("given(2, 0, 1, 0)", x.given(2, 0, 1, 0), 10);
        s.says("of each set of a SLOT of foes not all;");
        setRow(x, 1, 0, 10);
        s.due("give(2, 0, 1)", x.give(2, 0, 1), 4);
        s.due("given(2, 0, 1, 0)", x.given(2, 0, 1, 0), 10);
        s.due("given(2, 0, 1, 1): kept from 1 and 3", x.given(2, 0, 1, 1), 20);
        s.due("give(1, 0, 1)", x.give(1, 0, 1), 2);
        s.due("given(1, 0, 1, 0)", x.given(1, 0, 1, 0), 20);
        setRow(x, 1, 0, 10, 20);
        s.due("give(1, 0, 1): whoever has it stands with foes", x.give(1, 0, 1), -1);
        s.due("give(2, 0, 1)", x.give(2, 0, 1), 4);
        s.due("given(2, 0, 1, 0)", x.given(2, 0, 1, 0), 10);
        s.due("given(2, 0, 1, 1)", x.given(2, 0, 1, 1), 20);
        setRow(x, 1, 0, 7);
        s.due("give(2, 0, 1): a foe with all friends of a set", x.give(2, 0, 1), -1);
        s.says("fewest PIECES together.");
        setRow(x, 0, 0, 3, 5);
        setRow(x, 1, 0, 1);
        s.due("give(3, 0, 1)", x.give(3, 0, 1), 4);
        s.says("The first: syllable by syllable the least set that does.");
        s.due("given(3, 0, 1, 0)", x.given(3, 0, 1, 0), 1);
        s.due("given(3, 0, 1, 1)", x.given(3, 0, 1, 1), 1);
        s.due("given(3, 0, 1, 2)", x.given(3, 0, 1, 2), 6);
    }

    private void freeing() {
        s.says("VI. FREE: a name that is not the beginning of another one's, nor the other way round, nor alike.");
        HalvedNames x = made("hill syllables 2 places 1 hours 1;name 0 1;name 1 1 0;");
        s.due("free(1): beginnings", x.free(1), 0);
        s.due("free(2): 0 0 and 1 0", x.free(2), 2);
        s.due("free(3): 4 and 1 1 1", x.free(3), 5);
        s.due("free(4)", x.free(4), 10);
        s.due("child(-1)", x.child(-1), 2);
    }

    private void drawing() {
        s.says("VII. DRAWS: x becomes (1103515245 x + 12345) modulo 2,147,483,648 (at first it is the seed); "
            + "a draw: x / 65536, cut, modulo 100.");
        // From seed 1: x is 1103527590, a draw of 16838 modulo 100: 38.
        String one = "hill syllables 2 places 2 hours 4;name 0;name 1;name 1 1;";
        s.due("drawn(1, 1, 0), deaf 38", made(one + "deaf 1 38;says 0 0 0 at 0;").drawn(1, 1, 0), 1);
        s.due("drawn(1, 1, 0), deaf 39", made(one + "deaf 1 39;says 0 0 0 at 0;").drawn(1, 1, 0), 0);
        // From seed 0: x is 12345, a draw of 0.
        s.due("drawn(0, 1, 0), deaf 1", made(one + "deaf 1 1;says 0 0 0 at 0;").drawn(0, 1, 0), 0);
        // From seed 3: x is 1163074432, a draw of 17747 modulo 100, 7040 above it; from seed 5: 1222621274, a
        // draw of 18655 modulo 100, 47194 above it.
        s.due("drawn(3, 1, 0), deaf 47", made(one + "deaf 1 47;says 0 0 0 at 0;").drawn(3, 1, 0), 1);
        s.due("drawn(3, 1, 0), deaf 48", made(one + "deaf 1 48;says 0 0 0 at 0;").drawn(3, 1, 0), 0);
        s.due("drawn(5, 1, 0), deaf 55", made(one + "deaf 1 55;says 0 0 0 at 0;").drawn(5, 1, 0), 1);
        s.due("drawn(5, 1, 0), deaf 56", made(one + "deaf 1 56;says 0 0 0 at 0;").drawn(5, 1, 0), 0);
        // From seed 2,000,000,000: x is 2207030490000012345 modulo 2147483648, 216544313, a draw of 3304 modulo 100: 4.
        for (int deaf = 0; deaf <= 100; deaf++) {
            s.due("drawn(2e9, 1, 0), deaf " + deaf, made(one + "deaf 1 " + deaf + ";says 0 0 0 at 0;")
                .drawn(2000000000, 1, 0), 4 < deaf ? 0 : 1);
        }
        s.says("HEARD ILL: by each SAYING that is said a draw for each FOLK in that PLACE but who says it, by numbers:");
        // The second draw from seed 1 is 58: for folk 2, behind folk 1; for folk 1, where the first said is 2's.
        s.due("drawn, folk 2 by 58", made(one + "deaf 2 58;says 0 0 0 at 0;").drawn(1, 2, 0), 1);
        s.due("drawn, folk 2 by 58", made(one + "deaf 2 59;says 0 0 0 at 0;").drawn(1, 2, 0), 0);
        s.due("folk 0 by 38, folk 2 by 58", made(one + "deaf 0 38;deaf 2 58;says 1 1 0 at 0;").drawn(1, 0, 1), 1);
        s.due("folk 0 by 38, folk 2 by 58", made(one + "deaf 0 39;deaf 2 58;says 1 1 0 at 0;").drawn(1, 0, 1), 0);
        s.due("folk 0 by 38, folk 2 by 58", made(one + "deaf 0 39;deaf 2 58;says 1 1 0 at 0;").drawn(1, 2, 1), 1);
        s.due("folk 0 by 38, folk 2 by 58", made(one + "deaf 0 38;deaf 2 59;says 1 1 0 at 0;").drawn(1, 2, 1), 0);
        s.due("folk 1 elsewhere: 38", made(one + "goes 1 1 at 0;deaf 2 38;says 0 0 0 at 0;").drawn(1, 2, 0), 1);
        s.due("folk 1 elsewhere: 38", made(one + "goes 1 1 at 0;deaf 2 39;says 0 0 0 at 0;").drawn(1, 2, 0), 0);
        s.due("not said: 38", made(one + "deaf 1 39;says 2 0 0 at 0;says 0 0 0 at 0;").drawn(1, 1, 0), 0);
        s.due("not said: 38", made(one + "deaf 1 38;says 2 0 0 at 0;says 0 0 0 at 0;").drawn(1, 1, 0), 1);
        // The third, 13, comes behind draws for who knows it already.
        s.due("third: 13", made(one + "goes 1 1 at 0;goes 1 0 at 1;deaf 1 58;says 0 0 0 at 0;says 0 0 0 at 1;")
            .drawn(1, 1, 0), 1);
        s.due("second: 58", made(one + "goes 1 1 at 0;goes 1 0 at 1;deaf 1 59;says 0 0 0 at 0;says 0 0 0 at 1;")
            .drawn(1, 1, 0), 0);
        s.says("if it is below deaf, that one does not hear it.");
        s.due("deaf 100", made(one + "deaf 1 100;says 0 0 0 at 0;").drawn(1, 1, 0), 0);
        s.due("deaf 0, a draw of 0", made(one + "says 0 0 0 at 0;").drawn(0, 1, 0), 1);
        s.says("FRACTIONS are told in lowest terms (0 / 1).");
        HalvedNames x = made(one + "deaf 1 60;says 0 0 0 at 0;");
        s.due("chance(1, 0, 0): 40 / 100", x.chance(1, 0, 0), 2);
        s.due("chance(1, 0, 1)", x.chance(1, 0, 1), 5);
        s.due("chance(0, 1, 0): none", x.chance(0, 1, 0), 0);
        s.due("chance(0, 1, 1)", x.chance(0, 1, 1), 1);
        s.due("chance(2, 0, 0): sure", x.chance(2, 0, 0), 1);
        s.due("chance(2, 0, 1)", x.chance(2, 0, 1), 1);
    }

    private void order() {
        s.says("-2 comes ahead of -5, where both fit and nothing else is told.");
        HalvedNames x = made(TWO);
        s.due("call(1, 0, 0)", x.call(1, 0, 0), -5);
        s.due("call(1, 0, 4)", x.call(1, 0, 4), -2);
        s.due("call(1, 0, -1)", x.call(1, 0, -1), -2);
        s.due("call(1, 2, 0)", x.call(1, 2, 0), -2);
        s.due("unsay()", x.unsay(), -5);
        s.due("unsay() without a hill or a saying", new HalvedNames().unsay(), -2);
    }
}
