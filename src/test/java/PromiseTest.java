/** Each promise of the document with answers worked out by hand: ordinary ones, edges, wrong inputs. */
public final class PromiseTest {
    private static final int MIN = Integer.MIN_VALUE;
    private static final int MAX = Integer.MAX_VALUE;

    private static int promise;
    private static int asked;
    private static int wrong;

    private static void due(String call, long got, long want) {
        asked++;
        if (got != want) {
            wrong++;
            System.out.println("promise " + promise + ": " + call + " answered " + got + ", due is " + want);
        }
    }

    /** S0 tells folk 1, 2 and 3; S1 misses folk 1, who is away; S2 brings it to him; S3 is not known. */
    private static final String TOLD = "hill syllables 4 places 2 hours 6;"
        + "name 0 1 2;name 0 1;name 3;name 0 1 2;stammers 1 2;deaf 2 50;deaf 2 30;"
        + "goes 1 1 at 2;goes 1 0 at 4;knows 1 0 0;foe 1 0;foe 2 0;"
        + "says 0 0 1 at 1;says 0 0 2 at 2;says 2 0 2 at 5;says 2 0 0 at 5;";

    private static final String CALLS = "hill syllables 3 places 2 hours 8;name 0 1;name 2;name 1 1 1;"
        + "stammers 1 2;knows 1 0 0;knows 1 0 1;knows 0 1 0;goes 0 1 at 5;goes 0 0 at 6;"
        + "says 0 0 0 at 3;says 0 0 1 at 3;";

    private static final String BIDS = "hill syllables 5 places 1 hours 1;name 0 1;name 2;name 3;name 4 4;name 1;"
        + "knows 0 1 0;knows 1 2 0;knows 0 3 0;knows 2 3 1;knows 2 0 0;knows 2 0 1;knows 3 4 0;";

    private static final String HUSHED = "hill syllables 3 places 2 hours 4;name 0 1;name 2;name 1;"
        + "goes 2 1 at 0;goes 2 0 at 2;"
        + "says 0 0 0 at 0;says 0 0 1 at 0;says 1 0 0 at 2;says 1 0 1 at 3;says 0 0 1 at 3;";

    private static final String TEAMS = "hill syllables 3 places 1 hours 2;name 0 1 2;name 0;name 1;name 2;"
        + "knows 1 0 0;knows 2 0 1;knows 3 0 2;knows 3 0 1;says 3 0 2 at 1;";

    private static final String CLUES = "hill syllables 3 places 1 hours 1;name 0 1;name 0 2;name 1;name 0 1 2;";

    private static HalvedNames made(String text) {
        return Feeder.made(text);
    }

    private static void setRow(HalvedNames x, int slot, int width, long... numbers) {
        x.row(slot, width, numbers.length);
        for (int i = 0; i < numbers.length; i++) {
            x.write(slot, i, numbers[i]);
        }
    }

    /** A text without a HILL's face: what fault it has and where. */
    private static void faulty(String text, int fault, int place) {
        HalvedNames x = new HalvedNames();
        due("hill() of " + text, Feeder.hill(x, text), -4);
        due("fault(0) of " + text, x.fault(0), fault);
        due("fault(1) of " + text, x.fault(1), place);
        due("count(6) behind " + text, x.count(6), 0);
    }

    public static void main(String[] args) {
        for (promise = 1; promise <= 66; promise++) {
            int before = asked;
            test(promise);
            if (asked == before) {
                wrong++;
                System.out.println("promise " + promise + " is not asked");
            }
        }
        System.out.println("PromiseTest: " + asked + " answers asked, " + wrong + " wrong");
        if (wrong > 0) {
            System.exit(1);
        }
    }

    private static void test(int n) {
        switch (n) {
            case 1 -> newObject();
            case 2 -> feed();
            case 3 -> end();
            case 4 -> hill();
            case 5 -> fault();
            case 6 -> name();
            case 7 -> length();
            case 8 -> folk();
            case 9 -> place();
            case 10 -> saying();
            case 11 -> knew();
            case 12 -> knows();
            case 13 -> said();
            case 14 -> heard();
            case 15 -> learnt();
            case 16 -> whole();
            case 17 -> bidders();
            case 18 -> danger();
            case 19 -> foe();
            case 20 -> secrets();
            case 21 -> lore();
            case 22 -> wisest();
            case 23 -> call();
            case 24 -> soonest();
            case 25 -> latest();
            case 26 -> called();
            case 27 -> met();
            case 28 -> gossip();
            case 29 -> obey();
            case 30 -> namesakes();
            case 31 -> under();
            case 32 -> biddings();
            case 33 -> via();
            default -> testOn(n);
        }
    }

    private static void testOn(int n) {
        switch (n) {
            case 34 -> rings();
            case 35 -> betrayed();
            case 36 -> traced();
            case 37 -> hush();
            case 38 -> hushed();
            case 39 -> say();
            case 40 -> unsay();
            case 41 -> move();
            case 42 -> together();
            case 43 -> team();
            case 44 -> teamed();
            case 45 -> give();
            case 46 -> given();
            case 47 -> overheard();
            case 48 -> spellings();
            case 49 -> guess();
            case 50 -> listen();
            case 51 -> leaves();
            case 52 -> love();
            case 53 -> trust();
            case 54 -> free();
            case 55 -> child();
            case 56 -> clash();
            case 57 -> chance();
            case 58 -> drawn();
            case 59 -> years();
            case 60 -> teach();
            case 61 -> count();
            case 62 -> image();
            case 63 -> back();
            case 64 -> row();
            case 65 -> write();
            case 66 -> paste();
            default -> due("a promise beyond the document", n, 66);
        }
    }

    // ---- 1 to 5: the text

    private static void newObject() {
        HalvedNames x = new HalvedNames();
        due("NONE", HalvedNames.NONE, -1);
        for (int what = 0; what < 8; what++) {
            due("count(" + what + ")", x.count(what), 0);
        }
        due("rings()", x.rings(), -2);
        due("unsay()", x.unsay(), -2);
        due("secrets(0)", x.secrets(0), -2);
        due("wisest(0)", x.wisest(0), -2);
        due("length(0)", x.length(0), -2);
        due("free(1)", x.free(1), -2);
        due("child(-1)", x.child(-1), -2);
    }

    private static void feed() {
        HalvedNames x = new HalvedNames();
        for (int i = 1; i <= 70; i++) {
            due("feed " + i, x.feed(0, 0, 0, 0, 0), 20 * i);
        }
        due("feed beyond 1,400", x.feed(0, 0, 0, 0, 0), -1);
        due("count(6)", x.count(6), 1400);
        x.end(1381);
        due("feed from 1,381", x.feed(0, 0, 0, 0, 0), -1);
        due("count(6)", x.count(6), 1381);
        x.end(1380);
        due("feed from 1,380", x.feed(0, 0, 0, 0, 0), 1400);
        x.end(0);
        // "hill syllables 2 pl" "aces 1 hours 1;" with the highest byte first
        due("feed", x.feed(0x68696c6c, 0x2073796c, 0x6c61626c, 0x65732032, 0x20706c61), 20);
        due("feed", x.feed(0x63657320, 0x3120686f, 0x75727320, 0x313b2020, 0x20202020), 40);
        due("hill()", x.hill(), 1);
        // bytes above 127 are no TOKEN
        x.feed(0x20202080, 0, 0, 0, 0);
        due("hill()", x.hill(), -4);
        due("fault(1)", x.fault(1), 3);
    }

    private static void end() {
        HalvedNames x = new HalvedNames();
        due("end(1)", x.end(1), -1);
        due("end(0)", x.end(0), 0);
        x.feed(1, 2, 3, 4, 5);
        due("end(21)", x.end(21), -1);
        due("end(-1)", x.end(-1), -1);
        due("end(MIN)", x.end(MIN), -1);
        due("count(6)", x.count(6), 20);
        due("end(20)", x.end(20), 20);
        due("end(7)", x.end(7), 7);
        due("count(6)", x.count(6), 7);
        due("end(8)", x.end(8), -1);
        HalvedNames y = new HalvedNames();
        Feeder.put(y, "hill syllables 2 places 1 hours 1;name 0;name 1;");
        y.end(34);
        due("hill() of the first line", y.hill(), 1);
    }

    private static void hill() {
        HalvedNames x = new HalvedNames();
        due("hill() of nothing", x.hill(), 0);
        due("hill()", Feeder.hill(x, TOLD), 17);
        due("count(6)", x.count(6), 0);
        due("count(5)", x.count(5), 17);
        due("a faulty hill()", Feeder.hill(x, "hill syllables 1 places 1 hours 1;"), -4);
        due("count(6)", x.count(6), 0);
        due("count(5) stays", x.count(5), 17);
        due("whole(1, 0) stays", x.whole(1, 0), 5);
        due("hill() in place of it", Feeder.hill(x, "\nhill syllables 9places 4hours 24 ;\n\n"), 1);
        due("count(3)", x.count(3), 0);
        due("count(4)", x.count(4), 0);
        due("hill() of blanks", Feeder.hill(x, " \n  "), 0);
        due("count(0)", x.count(0), 0);
        due("rings()", x.rings(), -2);
        due("six of six", Feeder.hill(x, "hill syllables 2 places 1 hours 1;name 0 1 0 1 0 1;"
            + "name 1;name 1;name 1;name 1;name 1;"), 7);
        due("no blanks", Feeder.hill(x, "hill syllables2places1hours1;name0 1;foe;"), -4);
        due("no blanks", x.fault(1), 40);
        due("a long number", Feeder.hill(x, "hill syllables 0000000000000000000002 places 1 hours 1;"), 1);
    }

    private static final String FIRST = "hill syllables 3 places 2 hours 4;name 0 1;name 2;";

    private static void fault() {
        HalvedNames x = new HalvedNames();
        due("fault(0)", x.fault(0), 0);
        due("fault(1)", x.fault(1), -1);
        due("fault(2)", x.fault(2), -1);
        due("fault(-1)", x.fault(-1), -1);
        Feeder.hill(x, "hill;");
        due("fault(0)", x.fault(0), 1);
        due("fault(1)", x.fault(1), 4);
        due("fault(2)", x.fault(2), -1);
        Feeder.hill(x, FIRST);
        due("fault(0)", x.fault(0), 0);
        due("fault(1)", x.fault(1), -1);
        faultsOfPlace();
        faultsOfBounds();
        faultsOfNumber();
    }

    private static void faultsOfPlace() {
        int n = FIRST.length();
        faulty("name 0;", 1, 0);
        faulty(" ;", 1, 1);
        faulty("7", 1, 0);
        faulty("hillsyllables 3 places 2 hours 4;", 1, 0);
        faulty("Hill syllables 3 places 2 hours 4;", 1, 0);
        faulty("hill syllables 3 places 2 hours 4", 1, 33);
        faulty("hill syllables 3 places 2 hours 4  \n", 1, 36);
        faulty("hill syllables 3 places 2 hours 4 4;", 1, 34);
        faulty("hill places 3", 1, 5);
        faulty("hill syllables x", 1, 15);
        faulty("hill syllables -3", 1, 15);
        faulty("hill\tsyllables 3", 1, 4);
        faulty(FIRST + "hill syllables 3 places 2 hours 4;", 1, n);
        faulty(FIRST + ";", 1, n);
        faulty(FIRST + "names 0;", 1, n);
        faulty(FIRST + "name;", 1, n + 4);
        faulty(FIRST + "name 0", 1, n + 6);
        faulty(FIRST + "name 0 at", 1, n + 7);
        faulty(FIRST + "goes 0 1 1;", 1, n + 9);
        faulty(FIRST + "goes 0 1 at;", 1, n + 11);
        faulty(FIRST + "says 0 0 0 et 0;", 1, n + 11);
        faulty(FIRST + "foe 0;", 1, n + 5);
        faulty(FIRST + "knows 0 1 0 0;", 1, n + 12);
        faulty(FIRST + "deaf 0 1 ?", 1, n + 9);
        faulty(FIRST + "name 0,", 1, n + 6);
        faulty(FIRST + "\0", 1, n);
        faulty(FIRST + "\r", 1, n);
        faulty(FIRST + "name 0\u00ff", 1, n + 6);
        faulty(FIRST + "namez 0", 1, n);
    }

    private static void faultsOfBounds() {
        int n = FIRST.length();
        faulty("hill syllables 1 places 1 hours 1;", 2, 15);
        faulty("hill syllables 10 places 1 hours 1;", 2, 15);
        faulty("hill syllables 4294967298 places 1 hours 1;", 2, 15);
        faulty("hill syllables 2 places 0 hours 1;", 2, 24);
        faulty("hill syllables 2 places 5 hours 1;", 2, 24);
        faulty("hill syllables 2 places 1 hours 0;", 2, 32);
        faulty("hill syllables 2 places 1 hours 25;", 2, 32);
        faulty("hill syllables 2 places 1 hours 1;deaf 0 1;", 2, 39);
        faulty(FIRST + "name 3;", 2, n + 5);
        faulty(FIRST + "name 0 3 x;", 2, n + 7);
        faulty(FIRST + "stammers 2 1;", 2, n + 9);
        faulty(FIRST + "stammers 0 0;", 2, n + 11);
        faulty(FIRST + "stammers 0 5;", 2, n + 11);
        faulty(FIRST + "deaf 0 101;", 2, n + 7);
        faulty(FIRST + "goes 0 2 at 0;", 2, n + 7);
        faulty(FIRST + "goes 0 1 at 4;", 2, n + 12);
        faulty(FIRST + "knows 0 0 0;", 2, n + 8);
        faulty(FIRST + "knows 0 2 0;", 2, n + 8);
        faulty(FIRST + "knows 0 1 1;", 2, n + 10);
        faulty(FIRST + "knows 1 0 2;", 2, n + 10);
        faulty(FIRST + "says 0 1 1 at 0;", 2, n + 9);
        faulty(FIRST + "says 0 0 1 at 4;", 2, n + 14);
        faulty(FIRST + "says 2 0 1 at 0;", 2, n + 5);
        faulty(FIRST + "foe 1 1;", 2, n + 6);
        faulty(FIRST + "foe 1 1 A", 2, n + 6);
    }

    private static void faultsOfNumber() {
        String six = FIRST + "name 0;name 0;name 0;name 0;";
        faulty(six + "name 9;", 3, six.length());
        faulty(FIRST + "name 0 0 0 0 0 0 0;", 3, FIRST.length() + 17);
        faulty(FIRST + "name 0 0 0 0 0 0 3;", 2, FIRST.length() + 17);
        faulty(FIRST + "name 0 0 0 0 0 0 x;", 1, FIRST.length() + 17);
        String twelve = FIRST + "says 0 0 0 at 0;".repeat(12);
        due("hill() of twelve", Feeder.hill(new HalvedNames(), twelve), 15);
        faulty(twelve + "says 9;", 3, twelve.length());
    }

    // ---- 6 to 10: what the hill tells

    private static void name() {
        HalvedNames x = made(TOLD);
        due("name(0, 0)", x.name(0, 0), 0);
        due("name(0, 2)", x.name(0, 2), 2);
        due("name(2, 0)", x.name(2, 0), 3);
        due("name(0, 3)", x.name(0, 3), -1);
        due("name(1, 2)", x.name(1, 2), -1);
        due("name(0, -1)", x.name(0, -1), -1);
        due("name(1, -1)", x.name(1, -1), -1);
        due("name(0, MIN)", x.name(0, MIN), -1);
        due("name(4, 0)", x.name(4, 0), -2);
        due("name(-1, 0)", x.name(-1, 0), -2);
        due("name(MAX, 9)", x.name(MAX, 9), -2);
    }

    private static void length() {
        HalvedNames x = made(TOLD);
        due("length(0)", x.length(0), 3);
        due("length(1)", x.length(1), 2);
        due("length(2)", x.length(2), 1);
        due("length(4)", x.length(4), -2);
        due("length(-1)", x.length(-1), -2);
        due("length(MIN)", x.length(MIN), -2);
    }

    private static void folk() {
        HalvedNames x = made(TOLD);
        due("folk(1, 0)", x.folk(1, 0), 2);
        due("folk(0, 0)", x.folk(0, 0), 1);
        due("folk(2, 1): the later", x.folk(2, 1), 30);
        due("folk(1, 1)", x.folk(1, 1), 0);
        due("folk(0, 2)", x.folk(0, 2), 6);
        due("folk(1, 2)", x.folk(1, 2), 0);
        due("folk(0, 3)", x.folk(0, 3), -2);
        due("folk(0, -1)", x.folk(0, -1), -2);
        due("folk(4, 0)", x.folk(4, 0), -2);
        due("folk(-1, 0)", x.folk(-1, 0), -2);
        HalvedNames y = made("hill syllables 2 places 1 hours 1;name 0;stammers 0 4;deaf 0 100;stammers 0 3;");
        due("folk(0, 0): the later", y.folk(0, 0), 3);
        due("folk(0, 1)", y.folk(0, 1), 100);
    }

    private static void place() {
        HalvedNames x = made(TOLD);
        due("place(1, 0)", x.place(1, 0), 0);
        due("place(1, 1)", x.place(1, 1), 0);
        due("place(1, 2)", x.place(1, 2), 1);
        due("place(1, 3)", x.place(1, 3), 1);
        due("place(1, 4)", x.place(1, 4), 0);
        due("place(0, 5)", x.place(0, 5), 0);
        due("place(0, 6)", x.place(0, 6), -2);
        due("place(0, -1)", x.place(0, -1), -2);
        due("place(4, 0)", x.place(4, 0), -2);
        due("place(-1, 0)", x.place(-1, 0), -2);
        HalvedNames y = made("hill syllables 2 places 4 hours 24;name 0;"
            + "goes 0 3 at 20;goes 0 1 at 5;goes 0 2 at 5;goes 0 1 at 23;");
        due("place(0, 4)", y.place(0, 4), 0);
        due("place(0, 5): the later line", y.place(0, 5), 2);
        due("place(0, 19)", y.place(0, 19), 2);
        due("place(0, 20)", y.place(0, 20), 3);
        due("place(0, 22)", y.place(0, 22), 3);
        due("place(0, 23)", y.place(0, 23), 1);
    }

    private static void saying() {
        HalvedNames x = made(TOLD + "says 1 3 2 at 4;");
        due("saying(4, 0)", x.saying(4, 0), 1);
        due("saying(4, 1)", x.saying(4, 1), 3);
        due("saying(4, 2)", x.saying(4, 2), 2);
        due("saying(4, 3)", x.saying(4, 3), 4);
        due("saying(0, 2)", x.saying(0, 2), 1);
        due("saying(4, 4)", x.saying(4, 4), -2);
        due("saying(4, -1)", x.saying(4, -1), -2);
        due("saying(5, 0)", x.saying(5, 0), -2);
        due("saying(-1, 0)", x.saying(-1, 0), -2);
        due("saying(MAX, 0)", x.saying(MAX, 0), -2);
    }

    // ---- 11 to 22: who knows what

    private static void knew() {
        HalvedNames x = made(TOLD + "knows 3 1 1;knows 3 1 0;");
        due("knew(1, 0)", x.knew(1, 0), 1);
        due("knew(3, 1)", x.knew(3, 1), 3);
        due("knew(2, 0)", x.knew(2, 0), 0);
        due("knew(0, 0): one's own name whole", x.knew(0, 0), 7);
        due("knew(4, 0)", x.knew(4, 0), -2);
        due("knew(0, 4)", x.knew(0, 4), -2);
        due("knew(0, -1)", x.knew(0, -1), -2);
    }

    private static void knows() {
        HalvedNames x = made(TOLD);
        due("knows(1, 0, 0)", x.knows(1, 0, 0), 1);
        due("knows(1, 0, 1)", x.knows(1, 0, 1), 3);
        due("knows(1, 0, 4)", x.knows(1, 0, 4), 3);
        due("knows(1, 0, 5)", x.knows(1, 0, 5), 7);
        due("knows(2, 0, 1)", x.knows(2, 0, 1), 2);
        due("knows(2, 0, 2)", x.knows(2, 0, 2), 6);
        due("knows(2, 1, 5)", x.knows(2, 1, 5), 0);
        due("knows(1, 1, 0)", x.knows(1, 1, 0), 3);
        due("knows(1, 0, 6)", x.knows(1, 0, 6), -2);
        due("knows(1, 0, -1)", x.knows(1, 0, -1), -2);
        due("knows(4, 0, 0)", x.knows(4, 0, 0), -2);
        due("knows(0, 4, 0)", x.knows(0, 4, 0), -2);
        due("knows(0, 0, MAX)", x.knows(0, 0, MAX), -2);
    }

    private static void said() {
        HalvedNames x = made(TOLD);
        due("said(0)", x.said(0), 1);
        due("said(2)", x.said(2), 1);
        due("said(3): he does not know it", x.said(3), 0);
        due("said(4)", x.said(4), -2);
        due("said(-1)", x.said(-1), -2);
        HalvedNames y = made("hill syllables 2 places 1 hours 2;name 0;name 1;"
            + "says 1 0 0 at 0;says 0 0 0 at 0;says 1 0 0 at 0;says 1 0 0 at 1;");
        due("said(0): ahead of it in that hour", y.said(0), 0);
        due("said(2): behind it in that hour", y.said(2), 1);
        due("said(3)", y.said(3), 1);
        HalvedNames z = made("hill syllables 2 places 1 hours 2;name 0;name 1;says 1 0 0 at 1;says 0 0 0 at 0;");
        due("said(0): hours come first", z.said(0), 1);
    }

    private static void heard() {
        HalvedNames x = made(TOLD);
        due("heard(0)", x.heard(0), 14);
        due("heard(1): one is away", x.heard(1), 12);
        due("heard(2): also who knows it", x.heard(2), 11);
        due("heard(3): it is not said", x.heard(3), 0);
        due("heard(4)", x.heard(4), -2);
        due("heard(-1)", x.heard(-1), -2);
    }

    private static void learnt() {
        HalvedNames x = made(TOLD);
        due("learnt(0)", x.learnt(0), 14);
        due("learnt(1)", x.learnt(1), 12);
        due("learnt(2)", x.learnt(2), 2);
        due("learnt(3)", x.learnt(3), 0);
        due("learnt(4)", x.learnt(4), -2);
        due("learnt(-1)", x.learnt(-1), -2);
    }

    private static void whole() {
        HalvedNames x = made(TOLD + "knows 3 1 1;knows 3 1 0;");
        due("whole(1, 0)", x.whole(1, 0), 5);
        due("whole(2, 0)", x.whole(2, 0), -1);
        due("whole(3, 1): ahead of all", x.whole(3, 1), -3);
        due("whole(0, 0): one twice", x.whole(0, 0), -2);
        due("whole(0, 4)", x.whole(0, 4), -2);
        due("whole(-1, 0)", x.whole(-1, 0), -2);
        HalvedNames y = made("hill syllables 2 places 1 hours 1;name 0;name 1;says 0 0 0 at 0;");
        due("whole(1, 0) behind hour 0", y.whole(1, 0), 0);
    }

    private static void bidders() {
        HalvedNames x = made(TOLD);
        due("bidders(0, 4)", x.bidders(0, 4), 0);
        due("bidders(0, 5)", x.bidders(0, 5), 2);
        due("bidders(2, 5)", x.bidders(2, 5), 0);
        due("bidders(0, 6)", x.bidders(0, 6), -2);
        due("bidders(4, 0)", x.bidders(4, 0), -2);
        due("bidders(0, -1)", x.bidders(0, -1), -2);
        due("bidders(0, 0) of two", made(BIDS).bidders(0, 0), 4);
    }

    private static final String FOES = "hill syllables 2 places 1 hours 4;name 0;name 1;name 0 0;name 1 1;"
        + "foe 3 0;foe 2 0;foe 1 0;foe 3 1;knows 3 1 0;foe 0 2;says 0 0 0 at 2;";

    private static void danger() {
        HalvedNames x = made(FOES);
        due("danger(0)", x.danger(0), 2);
        due("danger(1): ahead of all", x.danger(1), -3);
        due("danger(2): the foe never knows", x.danger(2), -1);
        due("danger(3): no foe", x.danger(3), -1);
        due("danger(4)", x.danger(4), -2);
        due("danger(-1)", x.danger(-1), -2);
        due("danger(0): who knows it is no foe", made(TOLD + "knows 3 1 0;knows 3 1 1;").danger(1), -1);
    }

    private static void foe() {
        HalvedNames x = made(FOES);
        due("foe(0): the least of several", x.foe(0), 1);
        due("foe(1)", x.foe(1), 3);
        due("foe(2)", x.foe(2), -1);
        due("foe(4)", x.foe(4), -2);
        HalvedNames y = made(FOES + "knows 2 0 0;");
        due("foe(0): who knows it first", y.foe(0), 2);
    }

    private static void secrets() {
        HalvedNames x = made(TOLD);
        due("secrets(4)", x.secrets(4), 15);
        due("secrets(5)", x.secrets(5), 14);
        due("secrets(6)", x.secrets(6), -2);
        due("secrets(-1)", x.secrets(-1), -2);
        due("secrets(0) of no folk", made("hill syllables 2 places 1 hours 1;").secrets(0), 0);
    }

    private static void lore() {
        HalvedNames x = made(TOLD);
        due("lore(1, 0)", x.lore(1, 0), 1);
        due("lore(1, 1)", x.lore(1, 1), 2);
        due("lore(1, 5)", x.lore(1, 5), 3);
        due("lore(0, 5)", x.lore(0, 5), 0);
        due("lore(4, 0)", x.lore(4, 0), -2);
        due("lore(0, 6)", x.lore(0, 6), -2);
        due("lore(2, 0) of several names", made(BIDS).lore(2, 0), 3);
    }

    private static void wisest() {
        HalvedNames x = made(TOLD);
        due("wisest(0)", x.wisest(0), 1);
        due("wisest(3): the first of several", x.wisest(3), 1);
        due("wisest(5)", x.wisest(5), 1);
        due("wisest(6)", x.wisest(6), -2);
        due("wisest(-1)", x.wisest(-1), -2);
        due("wisest(0) of no folk", made("hill syllables 2 places 1 hours 1;").wisest(0), -1);
        due("wisest(0) of three", made(BIDS).wisest(0), 2);
        due("wisest(0) of none wise", made("hill syllables 2 places 1 hours 1;name 0;name 1;").wisest(0), 0);
    }

    // ---- 23 to 30: calls and names

    private static void call() {
        HalvedNames x = made(CALLS);
        due("call(1, 0, 0)", x.call(1, 0, 0), 3);
        due("call(1, 0, 1)", x.call(1, 0, 1), 4);
        due("call(1, 0, 2): he goes", x.call(1, 0, 2), -1);
        due("call(1, 0, 6): the hours are over", x.call(1, 0, 6), -1);
        due("call(0, 1, 0)", x.call(0, 1, 0), 0);
        due("call(0, 1, 5)", x.call(0, 1, 5), -1);
        due("call(0, 1, 7)", x.call(0, 1, 7), 7);
        due("call(2, 0, 3): told in that hour", x.call(2, 0, 3), -5);
        due("call(2, 0, 4): he goes", x.call(2, 0, 4), -1);
        due("call(2, 0, 6)", x.call(2, 0, 6), 7);
        due("call(2, 1, 7)", x.call(2, 1, 7), -5);
        due("call(1, 1, 0)", x.call(1, 1, 0), -2);
        due("call(1, 0, 8)", x.call(1, 0, 8), -2);
        due("call(1, 0, -1)", x.call(1, 0, -1), -2);
        due("call(2, 1, 8): -2 ahead of -5", x.call(2, 1, 8), -2);
        due("call(3, 0, 0)", x.call(3, 0, 0), -2);
        due("call(0, 3, 0)", x.call(0, 3, 0), -2);
    }

    private static void soonest() {
        HalvedNames x = made(CALLS);
        due("soonest(1, 0)", x.soonest(1, 0), 0);
        due("soonest(2, 0)", x.soonest(2, 0), 6);
        due("soonest(2, 1)", x.soonest(2, 1), -1);
        due("soonest(1, 1)", x.soonest(1, 1), -2);
        due("soonest(3, 0)", x.soonest(3, 0), -2);
        due("soonest(0, -1)", x.soonest(0, -1), -2);
    }

    private static void latest() {
        HalvedNames x = made(CALLS);
        due("latest(1, 0)", x.latest(1, 0), 1);
        due("latest(2, 0)", x.latest(2, 0), 6);
        due("latest(0, 1)", x.latest(0, 1), 7);
        due("latest(2, 1)", x.latest(2, 1), -1);
        due("latest(1, 1)", x.latest(1, 1), -2);
        due("latest(1, 3)", x.latest(1, 3), -2);
    }

    private static void called() {
        HalvedNames x = made(CALLS);
        due("called(0, 0)", x.called(0, 0), 2);
        due("called(0, 2)", x.called(0, 2), 0);
        due("called(0, 6)", x.called(0, 6), 4);
        due("called(1, 5)", x.called(1, 5), 0);
        due("called(1, 7)", x.called(1, 7), 1);
        due("called(0, 8)", x.called(0, 8), -2);
        due("called(3, 0)", x.called(3, 0), -2);
        due("called(-1, 0)", x.called(-1, 0), -2);
    }

    private static void met() {
        HalvedNames x = made(CALLS);
        due("met(0, 1)", x.met(0, 1), 223);
        due("met(1, 2)", x.met(1, 2), 255);
        due("met(1, 1)", x.met(1, 1), -2);
        due("met(1, 3)", x.met(1, 3), -2);
        HalvedNames y = made("hill syllables 2 places 2 hours 24;name 0;name 1;goes 0 1 at 0;goes 1 1 at 23;");
        due("met(1, 0) in the last hour", y.met(1, 0), 1 << 23);
    }

    private static void gossip() {
        HalvedNames x = made(TOLD);
        due("gossip(0)", x.gossip(0), 5);
        due("gossip(2)", x.gossip(2), 1);
        due("gossip(1)", x.gossip(1), 0);
        due("gossip(4)", x.gossip(4), -2);
        due("gossip(-1)", x.gossip(-1), -2);
    }

    private static void obey() {
        HalvedNames x = made(TOLD);
        due("obey(0)", x.obey(0), 11);
        due("obey(1)", x.obey(1), 2);
        due("obey(2)", x.obey(2), 4);
        due("obey(3)", x.obey(3), 11);
        due("obey(4)", x.obey(4), -2);
        due("obey(-1)", x.obey(-1), -2);
    }

    private static void namesakes() {
        HalvedNames x = made(TOLD);
        due("namesakes(0)", x.namesakes(0), 8);
        due("namesakes(3)", x.namesakes(3), 1);
        due("namesakes(1)", x.namesakes(1), 0);
        due("namesakes(4)", x.namesakes(4), -2);
        due("namesakes(-1)", x.namesakes(-1), -2);
    }

    // ---- 31 to 38: biddings and hushing

    private static final String TWO_WAYS = "hill syllables 4 places 1 hours 1;name 0;name 1;name 2;name 3;"
        + "knows 0 1 0;knows 0 2 0;knows 1 3 0;knows 2 3 0;";

    private static void under() {
        HalvedNames x = made(BIDS);
        due("under(0)", x.under(0), 30);
        due("under(1)", x.under(1), 29);
        due("under(2)", x.under(2), 27);
        due("under(3)", x.under(3), 16);
        due("under(4)", x.under(4), 0);
        due("under(5)", x.under(5), -2);
        due("under(-1)", x.under(-1), -2);
    }

    private static void biddings() {
        HalvedNames x = made(BIDS);
        due("biddings(0, 1)", x.biddings(0, 1), 1);
        due("biddings(0, 2)", x.biddings(0, 2), 2);
        due("biddings(0, 4)", x.biddings(0, 4), 4);
        due("biddings(4, 0)", x.biddings(4, 0), -1);
        due("biddings(0, 0)", x.biddings(0, 0), -2);
        due("biddings(0, 5)", x.biddings(0, 5), -2);
        due("biddings(0, 3) two ways", made(TWO_WAYS).biddings(0, 3), 2);
    }

    private static void via() {
        HalvedNames x = made(BIDS);
        due("via(0, 1)", x.via(0, 1), 2);
        due("via(0, 3)", x.via(0, 3), 14);
        due("via(1, 4)", x.via(1, 4), 29);
        due("via(4, 0)", x.via(4, 0), -1);
        due("via(0, 0)", x.via(0, 0), -2);
        due("via(5, 0)", x.via(5, 0), -2);
        due("via(0, 3): the least of two", made(TWO_WAYS).via(0, 3), 10);
        due("via(0, 3): the fewest", made(TWO_WAYS + "knows 0 3 0;").via(0, 3), 8);
    }

    private static void rings() {
        due("rings()", made(BIDS).rings(), 7);
        due("rings() without any", made(TWO_WAYS).rings(), 0);
        due("rings() of two", made(TWO_WAYS + "knows 3 1 0;").rings(), 10);
        due("rings() of no folk", made("hill syllables 2 places 1 hours 1;").rings(), 0);
        due("rings() of no hill", new HalvedNames().rings(), -2);
    }

    private static void betrayed() {
        HalvedNames x = made(HUSHED);
        due("betrayed(2, 0)", x.betrayed(2, 0), 2);
        due("betrayed(1, 0)", x.betrayed(1, 0), 0);
        due("betrayed(0, 1): not known anyway", x.betrayed(0, 1), 0);
        due("betrayed(0, 0)", x.betrayed(0, 0), -2);
        due("betrayed(0, 3)", x.betrayed(0, 3), -2);
    }

    private static void traced() {
        HalvedNames x = made(HUSHED);
        due("traced(2, 0)", x.traced(2, 0), 5);
        due("traced(1, 0)", x.traced(1, 0), 1);
        due("traced(0, 1)", x.traced(0, 1), 0);
        due("traced(0, 0)", x.traced(0, 0), -2);
        due("traced(-1, 0)", x.traced(-1, 0), -2);
    }

    private static final String TOLD_TWICE =
        "hill syllables 2 places 1 hours 2;name 0;name 1;says 0 0 0 at 0;says 1 1 0 at 0;says 0 0 0 at 1;";

    private static void hush() {
        HalvedNames x = made(HUSHED);
        due("hush(2, 0)", x.hush(2, 0), 1);
        due("hush(0, 1): not known anyway", x.hush(0, 1), 0);
        due("hush(0, 0)", x.hush(0, 0), -2);
        due("hush(0, 3)", x.hush(0, 3), -2);
        due("hush(1, 0) of two", made(TOLD_TWICE).hush(1, 0), 2);
        due("hush(0, 1)", made(TOLD_TWICE).hush(0, 1), 1);
        due("hush(1, 0) whatever is hushed", made(TOLD_TWICE + "knows 1 0 0;").hush(1, 0), -1);
    }

    private static void hushed() {
        HalvedNames x = made(HUSHED);
        due("hushed(2, 0)", x.hushed(2, 0), 1);
        due("hushed(0, 1)", x.hushed(0, 1), 0);
        due("hushed(0, 0)", x.hushed(0, 0), -2);
        due("hushed(3, 0)", x.hushed(3, 0), -2);
        due("hushed(1, 0) of two", made(TOLD_TWICE).hushed(1, 0), 5);
        due("hushed(0, 1)", made(TOLD_TWICE).hushed(0, 1), 2);
        due("hushed(1, 0) whatever is hushed", made(TOLD_TWICE + "knows 1 0 0;").hushed(1, 0), -1);
    }

    // ---- 39 to 44: changes and teams

    private static void say() {
        HalvedNames x = made("hill syllables 3 places 2 hours 4;name 0 1;name 2;name 1;");
        due("say(1, 0, 0, 2)", x.say(1, 0, 0, 2), 0);
        due("said(0)", x.said(0), 0);
        due("say(0, 0, 0, 1)", x.say(0, 0, 0, 1), 1);
        due("said(0): hours come first", x.said(0), 1);
        due("saying(1, 3)", x.saying(1, 3), 1);
        due("count(4)", x.count(4), 2);
        due("count(5): no line", x.count(5), 4);
        due("say(3, 0, 0, 0)", x.say(3, 0, 0, 0), -2);
        due("say(0, 3, 0, 0)", x.say(0, 3, 0, 0), -2);
        due("say(0, 1, 1, 0)", x.say(0, 1, 1, 0), -2);
        due("say(0, 0, 2, 0)", x.say(0, 0, 2, 0), -2);
        due("say(0, 0, -1, 0)", x.say(0, 0, -1, 0), -2);
        due("say(0, 0, 0, 4)", x.say(0, 0, 0, 4), -2);
        due("say(0, 0, 0, -1)", x.say(0, 0, 0, -1), -2);
        for (int i = 2; i < 12; i++) {
            due("say " + i, x.say(0, 0, 1, 3), i);
        }
        due("say a 13th", x.say(0, 0, 1, 3), -3);
        due("count(4)", x.count(4), 12);
        due("say on no hill", new HalvedNames().say(0, 0, 0, 0), -2);
    }

    private static void unsay() {
        HalvedNames x = made(TOLD);
        x.say(0, 0, 0, 4);
        due("whole(2, 0)", x.whole(2, 0), 4);
        due("unsay()", x.unsay(), 4);
        due("whole(2, 0)", x.whole(2, 0), -1);
        due("unsay() one told in the text", x.unsay(), 3);
        due("unsay()", x.unsay(), 2);
        due("whole(1, 0)", x.whole(1, 0), -1);
        due("said(2)", x.said(2), -2);
        due("unsay()", x.unsay(), 1);
        due("unsay()", x.unsay(), 0);
        due("unsay() without any", x.unsay(), -5);
        due("unsay() without a hill", new HalvedNames().unsay(), -2);
    }

    private static void move() {
        HalvedNames x = made(TOLD);
        due("move(1, 0, 2)", x.move(1, 0, 2), 1);
        due("place(1, 2)", x.place(1, 2), 0);
        due("place(1, 3): that hour alone", x.place(1, 3), 1);
        due("heard(1)", x.heard(1), 14);
        due("whole(1, 0)", x.whole(1, 0), 2);
        due("move(1, 0, 2)", x.move(1, 0, 2), 0);
        due("move(0, 2, 0)", x.move(0, 2, 0), -2);
        due("move(0, -1, 0)", x.move(0, -1, 0), -2);
        due("move(4, 0, 0)", x.move(4, 0, 0), -2);
        due("move(0, 0, 6)", x.move(0, 0, 6), -2);
        due("move(0, 0, -1)", x.move(0, 0, -1), -2);
    }

    private static void together() {
        HalvedNames x = made(TEAMS);
        due("together(10, 0, 0)", x.together(10, 0, 0), 1);
        due("together(6, 0, 0)", x.together(6, 0, 0), 0);
        due("together(6, 0, 1)", x.together(6, 0, 1), 1);
        due("together(8, 0, 1)", x.together(8, 0, 1), 0);
        due("together(1, 0, 0): himself", x.together(1, 0, 0), 1);
        due("together(0, 0, 0): nobody", x.together(0, 0, 0), 0);
        due("together(15, 0, 0)", x.together(15, 0, 0), 1);
        due("together(16, 0, 0)", x.together(16, 0, 0), -2);
        due("together(-1, 0, 0)", x.together(-1, 0, 0), -2);
        due("together(1, 4, 0)", x.together(1, 4, 0), -2);
        due("together(1, 0, 2)", x.together(1, 0, 2), -2);
    }

    private static void team() {
        HalvedNames x = made(TEAMS);
        due("team(0, 0)", x.team(0, 0), 2);
        due("team(1, 0)", x.team(1, 0), -1);
        due("team(4, 0)", x.team(4, 0), -2);
        due("team(0, 2)", x.team(0, 2), -2);
        x.teach(3, 0, 0, 1);
        due("team(0, 0) of one", x.team(0, 0), 1);
    }

    private static void teamed() {
        HalvedNames x = made(TEAMS);
        due("teamed(0, 0)", x.teamed(0, 0), 10);
        due("teamed(0, 1): the least", x.teamed(0, 1), 6);
        due("teamed(1, 0)", x.teamed(1, 0), -1);
        due("teamed(-1, 0)", x.teamed(-1, 0), -2);
        due("teamed(0, -1)", x.teamed(0, -1), -2);
        x.teach(3, 0, 0, 1);
        due("teamed(0, 0) of one", x.teamed(0, 0), 8);
    }

    // ---- 45 and 46: pieces given out

    private static void give() {
        HalvedNames x = new HalvedNames();
        setRow(x, 0, 0, 3);
        setRow(x, 1, 0, 1, 2);
        due("give(2, 0, 1)", x.give(2, 0, 1), 2);
        due("give(1, 0, 1)", x.give(1, 0, 1), -1);
        due("give(6, 0, 1)", x.give(6, 0, 1), 6);
        due("give(0, 0, 1)", x.give(0, 0, 1), -2);
        due("give(7, 0, 1)", x.give(7, 0, 1), -2);
        due("give(2, 4, 1)", x.give(2, 4, 1), -2);
        due("give(2, 0, -1)", x.give(2, 0, -1), -2);
        due("give(2, 0, 2)", x.give(2, 0, 2), -6);
        due("give(2, 2, 1)", x.give(2, 2, 1), -6);
        due("give(2, 0, 0): friends who are foes", x.give(2, 0, 0), -1);
        // any two of three have all, none alone: each syllable is kept from one
        setRow(x, 0, 3, 3, 5, 6);
        setRow(x, 1, 3, 1, 2, 4);
        due("give(3, 0, 1)", x.give(3, 0, 1), 6);
        due("give(2, 0, 1): one would have all", x.give(2, 0, 1), -1);
        setRow(x, 2, 1);
        due("give(3, 2, 2): without friends or foes", x.give(3, 2, 2), 3);
        setRow(x, 2, 1, 0);
        due("give(2, 2, 1): no set", x.give(2, 2, 1), -2);
        due("give(2, 1, 2): no set", x.give(2, 1, 2), -2);
        due("give(2, 2, 3): asked last", x.give(2, 2, 3), -6);
        setRow(x, 2, 1, 64);
        due("give(2, 2, 1): no set", x.give(2, 2, 1), -2);
        setRow(x, 2, 1, 63);
        due("give(2, 2, 1)", x.give(2, 2, 1), 2);
        setRow(x, 2, 0, 1, 1, 1, 1, 1, 1, 1, 1, 1);
        due("give(2, 0, 2): nine foes", x.give(2, 0, 2), -2);
        due("give(2, 2, 1): nine friends", x.give(2, 2, 1), -1);
        setRow(x, 3, 0, 2, 4, 8, 16, 32, 6, 12, 24);
        due("give(1, 2, 3): eight foes", x.give(1, 2, 3), 1);
    }

    private static void given() {
        HalvedNames x = new HalvedNames();
        setRow(x, 0, 0, 3);
        setRow(x, 1, 0, 1, 2);
        due("given(2, 0, 1, 0)", x.given(2, 0, 1, 0), 1);
        due("given(2, 0, 1, 1)", x.given(2, 0, 1, 1), 2);
        due("given(2, 0, 1, 2)", x.given(2, 0, 1, 2), -1);
        due("given(2, 0, 1, -1)", x.given(2, 0, 1, -1), -1);
        due("given(3, 0, 1, 1): the least first", x.given(3, 0, 1, 1), 1);
        due("given(3, 0, 1, 2)", x.given(3, 0, 1, 2), 2);
        due("given(1, 0, 1, 0): it can't be", x.given(1, 0, 1, 0), -1);
        due("given(7, 0, 1, 0)", x.given(7, 0, 1, 0), -2);
        due("given(2, 5, 1, 0)", x.given(2, 5, 1, 0), -2);
        due("given(2, 0, 3, 0)", x.given(2, 0, 3, 0), -6);
        setRow(x, 0, 3, 3, 5, 6);
        setRow(x, 1, 3, 1, 2, 4);
        due("given(3, 0, 1, 0)", x.given(3, 0, 1, 0), 3);
        due("given(3, 0, 1, 1)", x.given(3, 0, 1, 1), 5);
        due("given(3, 0, 1, 2)", x.given(3, 0, 1, 2), 6);
        setRow(x, 1, 3, 99);
        due("given(3, 0, 1, 0): no set", x.given(3, 0, 1, 0), -2);
    }

    // ---- 47 to 51: names that fit

    private static void overheard() {
        HalvedNames x = made("hill syllables 3 places 1 hours 1;name 0 1 2 0 1;name 1 2;name 2 1;name 0 0 0 1;");
        due("overheard(0)", x.overheard(0), -6);
        setRow(x, 0, 0, 1, 2);
        due("overheard(1, 2)", x.overheard(0), 3);
        setRow(x, 0, 0, 2, 1);
        due("overheard(2, 1)", x.overheard(0), 4);
        setRow(x, 0, 0, 0, 0, 1);
        due("overheard(0, 0, 1)", x.overheard(0), 8);
        setRow(x, 0, 0, 0, 2);
        due("overheard(0, 2): not one behind the other", x.overheard(0), 0);
        setRow(x, 0, 0);
        due("overheard() of no syllable", x.overheard(0), 15);
        setRow(x, 0, 0, 0, 1, 2, 0, 1, 2, 0);
        due("overheard of seven", x.overheard(0), 0);
        setRow(x, 0, 3, 3);
        due("overheard(3): no syllable", x.overheard(0), -2);
        setRow(x, 0, 3, -1);
        due("overheard(-1): no syllable", x.overheard(0), -2);
        due("overheard of no slot", x.overheard(4), -2);
        due("overheard of no slot", x.overheard(-1), -2);
        due("overheard without a hill", new HalvedNames().overheard(0), -2);
    }

    private static void spellings() {
        HalvedNames x = made("hill syllables 3 places 1 hours 1;");
        due("spellings(0, 1)", x.spellings(0, 1), -6);
        due("spellings(0, 0)", x.spellings(0, 0), -2);
        setRow(x, 0, 0, 1, 2);
        due("spellings(1, 2 in 1)", x.spellings(0, 1), 0);
        due("spellings(1, 2 in 2)", x.spellings(0, 2), 1);
        due("spellings(1, 2 in 3)", x.spellings(0, 3), 6);
        setRow(x, 0, 1, 0, 0);
        due("spellings(0, 0 in 3)", x.spellings(0, 3), 5);
        due("spellings(0, 0 in 4)", x.spellings(0, 4), 21);
        setRow(x, 0, 2, 0, 0, 1);
        due("spellings(0, 0, 1 in 4)", x.spellings(0, 4), 6);
        setRow(x, 0, 3);
        due("spellings() of no syllable", x.spellings(0, 6), 729);
        due("spellings in 7", x.spellings(0, 7), -2);
        due("spellings in 0", x.spellings(0, 0), -2);
        due("spellings of no slot", x.spellings(4, 1), -2);
        setRow(x, 0, 0, 3);
        due("spellings(3)", x.spellings(0, 1), -2);
        due("spellings without a hill", new HalvedNames().spellings(0, 1), -2);
        HalvedNames y = made("hill syllables 9 places 1 hours 1;");
        setRow(y, 2, 0);
        due("spellings of nine", y.spellings(2, 6), 531441);
    }

    private static void guess() {
        HalvedNames x = made(CLUES);
        due("guess(0)", x.guess(0), -6);
        setRow(x, 0, 0, 0, 0);
        due("guess(0 is 0)", x.guess(0), 11);
        setRow(x, 0, 0, 0, 0, 1, 1);
        due("guess(0 is 0, 1 is 1)", x.guess(0), 9);
        setRow(x, 0, 0, 2, 2);
        due("guess(2 is 2)", x.guess(0), 8);
        setRow(x, 0, 0, 5, 0);
        due("guess(5 is 0)", x.guess(0), 0);
        setRow(x, 0, 0);
        due("guess()", x.guess(0), 15);
        setRow(x, 0, 0, 6, 0);
        due("guess(6 is 0)", x.guess(0), -2);
        setRow(x, 0, 0, 0, 3);
        due("guess(0 is 3)", x.guess(0), -2);
        setRow(x, 0, 3, 0, -1);
        due("guess(0 is -1)", x.guess(0), -2);
        setRow(x, 0, 0, 0, 0, 1);
        due("guess of three numbers", x.guess(0), -2);
        due("guess of no slot", x.guess(4), -2);
        due("guess without a hill", new HalvedNames().guess(0), -2);
    }

    private static void listen() {
        HalvedNames x = made(CLUES);
        due("listen(0)", x.listen(0), -6);
        setRow(x, 0, 0);
        due("listen()", x.listen(0), 1);
        setRow(x, 0, 0, 0, 0);
        due("listen(0 is 0): the least of several", x.listen(0), 1);
        setRow(x, 0, 0, 1, 1);
        due("listen(1 is 1): who has none is told by that", x.listen(0), 2);
        setRow(x, 0, 0, 0, 1);
        due("listen(0 is 1): one alone", x.listen(0), -1);
        setRow(x, 0, 0, 0, 2);
        due("listen(0 is 2): nobody", x.listen(0), -1);
        setRow(x, 0, 0, 0, 9);
        due("listen(0 is 9)", x.listen(0), -2);
        setRow(x, 0, 0, 0);
        due("listen of one number", x.listen(0), -2);
        due("listen of no slot", x.listen(-1), -2);
        due("listen without a hill", new HalvedNames().listen(0), -2);
        HalvedNames y = made("hill syllables 3 places 1 hours 1;name 0 1;name 0 1;");
        setRow(y, 0, 0);
        due("listen to namesakes", y.listen(0), -1);
    }

    private static void leaves() {
        HalvedNames x = made(CLUES);
        due("leaves(0)", x.leaves(0), -6);
        setRow(x, 0, 0);
        due("leaves()", x.leaves(0), 2);
        setRow(x, 0, 0, 1, 1);
        due("leaves(1 is 1)", x.leaves(0), 1);
        setRow(x, 0, 0, 0, 1);
        due("leaves(0 is 1)", x.leaves(0), 1);
        setRow(x, 0, 0, 0, 2);
        due("leaves(0 is 2)", x.leaves(0), 0);
        setRow(x, 0, 0, 0, 9);
        due("leaves(0 is 9)", x.leaves(0), -2);
        due("leaves of no slot", x.leaves(4), -2);
        due("leaves without a hill", new HalvedNames().leaves(0), -2);
        HalvedNames y = made("hill syllables 3 places 1 hours 1;name 0 1;name 0 1;");
        setRow(y, 0, 0);
        due("leaves of namesakes: as now", y.leaves(0), 2);
    }

    // ---- 52 to 56: lovers and children

    private static final String LOVERS =
        "hill syllables 2 places 1 hours 1;name 0 0;name 0;name 0 0 0 0 0 0;name 1 1 1 1 1 1;";

    private static void love() {
        HalvedNames x = made(LOVERS);
        due("love(0, 1, 0)", x.love(0, 1, 0), 0);
        due("love(0, 1, 1)", x.love(0, 1, 1), 2);
        due("love(0, 1, 2)", x.love(0, 1, 2), 3);
        due("love(1, 0, 1)", x.love(1, 0, 1), 2);
        due("love(2, 3, 1)", x.love(2, 3, 1), 64);
        due("love(2, 3, 6)", x.love(2, 3, 6), 924);
        due("love(2, 3, 5)", x.love(2, 3, 5), 922);
        due("love(2, 1, 4)", x.love(2, 1, 4), 0);
        due("love(0, 0, 1)", x.love(0, 0, 1), -2);
        due("love(0, 4, 1)", x.love(0, 4, 1), -2);
        due("love(0, 1, 7)", x.love(0, 1, 7), -2);
        due("love(0, 1, -1)", x.love(0, 1, -1), -2);
    }

    private static void trust() {
        HalvedNames x = made(LOVERS);
        due("trust(0, 1)", x.trust(0, 1), 1);
        due("trust(2, 3)", x.trust(2, 3), 1);
        due("trust(2, 1)", x.trust(2, 1), 5);
        due("trust(0, 2)", x.trust(0, 2), 4);
        due("trust(0, 0)", x.trust(0, 0), -2);
        due("trust(4, 0)", x.trust(4, 0), -2);
    }

    private static void free() {
        HalvedNames x = made(TOLD);
        due("free(1)", x.free(1), 2);
        due("free(2)", x.free(2), 11);
        due("free(3)", x.free(3), 44);
        due("free(0)", x.free(0), -2);
        due("free(7)", x.free(7), -2);
        due("free(-1)", x.free(-1), -2);
        due("free(1) without a hill", new HalvedNames().free(1), -2);
        HalvedNames y = made("hill syllables 9 places 1 hours 1;");
        due("free(6) without folk", y.free(6), 531441);
        HalvedNames z = made("hill syllables 2 places 1 hours 1;name 0;name 1;name 0 1;");
        due("free(6) of none", z.free(6), 0);
        HalvedNames w = made("hill syllables 2 places 1 hours 1;name 0 0 0;name 0 0 1;name 0 0 1;");
        due("free(2): two begin alike", w.free(2), 3);
        due("free(3)", w.free(3), 6);
        due("free(4)", w.free(4), 12);
    }

    private static void child() {
        HalvedNames x = made(TOLD);
        due("child(-1)", x.child(-1), 1);
        due("child(0)", x.child(0), 1);
        due("child(1)", x.child(1), -1);
        due("child(-2)", x.child(-2), -2);
        due("child(MIN)", x.child(MIN), -2);
        due("child without a hill", new HalvedNames().child(0), -2);
        HalvedNames y = made("hill syllables 2 places 1 hours 1;name 0;name 1 0;name 1 1 0;");
        due("child(-1) of three", y.child(-1), 3);
        due("child(0)", y.child(0), 1);
        due("child(2)", y.child(2), 1);
        due("child(3)", y.child(3), -1);
        HalvedNames z = made("hill syllables 3 places 1 hours 1;name 0 0;name 1;name 2;");
        due("child(-1) of two", z.child(-1), 2);
        due("child(0)", z.child(0), 0);
        due("child(1)", z.child(1), 1);
        HalvedNames w = made("hill syllables 2 places 1 hours 1;name 0;name 1;");
        due("child(-1) of none", w.child(-1), -1);
        due("child(0) of none", w.child(0), -1);
        HalvedNames six = made("hill syllables 2 places 1 hours 1;name 0;name 1 0;name 1 1 0;name 1 1 1 0;"
            + "name 1 1 1 1 0;name 1 1 1 1 1 0;");
        due("child(-1) of six", six.child(-1), 6);
        due("child(5)", six.child(5), 1);
        due("child(6)", six.child(6), -1);
        HalvedNames v = made("hill syllables 2 places 1 hours 1;");
        due("child(-1) without folk", v.child(-1), 1);
        due("child(0) without folk", v.child(0), 0);
    }

    private static void clash() {
        HalvedNames x = made(TOLD);
        due("clash(0)", x.clash(0), 10);
        due("clash(1)", x.clash(1), 9);
        due("clash(2)", x.clash(2), 0);
        due("clash(3)", x.clash(3), 3);
        due("clash(4)", x.clash(4), -2);
        due("clash(-1)", x.clash(-1), -2);
    }

    // ---- 57 to 59: mishearings

    private static final String ILL = "hill syllables 2 places 1 hours 4;name 0;name 0 1;name 1;";

    private static void odds(String call, HalvedNames x, int folk, int other, long above, long below) {
        due(call + " above", x.chance(folk, other, 0), above);
        due(call + " below", x.chance(folk, other, 1), below);
    }

    private static void chance() {
        odds("once", made(ILL + "deaf 1 50;says 0 0 0 at 0;"), 1, 0, 1, 2);
        odds("twice", made(ILL + "deaf 1 50;says 0 0 0 at 0;says 0 0 0 at 3;"), 1, 0, 3, 4);
        odds("two syllables", made(ILL + "deaf 0 30;says 1 1 0 at 0;says 1 1 1 at 0;"), 0, 1, 49, 100);
        odds("one known", made(ILL + "deaf 0 30;knows 0 1 1;says 1 1 0 at 0;says 1 1 1 at 0;"), 0, 1, 7, 10);
        odds("never told", made(ILL + "deaf 1 50;"), 1, 0, 0, 1);
        odds("wholly deaf", made(ILL + "deaf 1 100;says 0 0 0 at 0;"), 1, 0, 0, 1);
        odds("known ahead", made(ILL + "deaf 1 50;knows 1 0 0;says 0 0 0 at 0;"), 1, 0, 1, 1);
        odds("others hear", made(ILL + "deaf 1 50;deaf 2 99;says 0 0 0 at 0;says 2 0 0 at 1;"), 1, 0, 3, 4);
        // folk 0 brings folk 1 what it hears of folk 2, folk 1 says more of itself only then
        odds("passed on", made("hill syllables 2 places 2 hours 4;name 0;name 0 1;name 1;name 1 1;deaf 0 50;"
            + "goes 2 1 at 1;says 2 2 0 at 0;says 0 2 0 at 1;says 1 2 0 at 2;says 1 1 0 at 2;says 1 1 1 at 2;"
            + "goes 3 1 at 0;goes 3 0 at 3;says 1 2 0 at 3;"), 3, 2, 1, 1);
        odds("an own telling", made("hill syllables 2 places 2 hours 4;name 0;name 0 1;name 1;deaf 0 50;"
            + "goes 2 1 at 0;goes 0 1 at 1;goes 0 0 at 2;knows 2 1 0;"
            + "says 2 1 0 at 1;says 0 1 0 at 2;says 1 1 1 at 3;"), 0, 1, 1, 4);
        String eight = ILL + "deaf 1 50;" + "says 0 0 0 at 0;".repeat(8);
        odds("eight", made(eight), 1, 0, 255, 256);
        HalvedNames nine = made(eight + "says 2 2 0 at 1;");
        due("nine", nine.chance(1, 0, 0), -1);
        due("nine", nine.chance(1, 2, 1), -1);
        due("nine that it knows", made(eight + "says 2 2 0 at 1;knows 1 0 0;").chance(1, 2, 1), 2);
        HalvedNames x = made(eight);
        due("chance(1, 1, 0)", x.chance(1, 1, 0), -2);
        due("chance(3, 0, 0)", x.chance(3, 0, 0), -2);
        due("chance(0, -1, 0)", x.chance(0, -1, 0), -2);
        due("chance(0, 1, 2)", x.chance(0, 1, 2), -2);
        due("chance(0, 1, -1)", x.chance(0, 1, -1), -2);
        odds("a long fraction", made(ILL + "deaf 1 1;" + "says 0 0 0 at 0;".repeat(8)), 1, 0,
            9999999999999999L, 10000000000000000L);
    }

    /** From seed 1 the draws are 38, 58, 13, 15, 51. */
    private static HalvedNames deaf(int first, int second) {
        return made("hill syllables 2 places 2 hours 4;name 0;name 0 1;name 1;"
            + "deaf 1 " + first + ";deaf 2 " + second + ";says 0 0 0 at 0;");
    }

    private static void drawn() {
        due("drawn below 38", deaf(38, 0).drawn(1, 1, 0), 1);
        due("drawn below 39", deaf(39, 0).drawn(1, 1, 0), 0);
        due("drawn below 58", deaf(39, 58).drawn(1, 2, 0), 1);
        due("drawn below 59", deaf(0, 59).drawn(1, 2, 0), 0);
        due("drawn of oneself", deaf(0, 59).drawn(1, 1, 1), 3);
        due("drawn from 0", deaf(1, 0).drawn(0, 1, 0), 0);
        due("drawn from 0", deaf(0, 0).drawn(0, 1, 0), 1);
        HalvedNames x = deaf(100, 0);
        due("drawn(-1, 1, 0)", x.drawn(-1, 1, 0), -2);
        due("drawn(2000000001, 1, 0)", x.drawn(2000000001, 1, 0), -2);
        due("drawn(2000000000, 1, 0)", x.drawn(2000000000, 1, 0), 0);
        due("drawn(0, 3, 0)", x.drawn(0, 3, 0), -2);
        due("drawn(0, 0, -1)", x.drawn(0, 0, -1), -2);
        // what is not said takes no draw, nor who is away: the third draw, 13, is for folk 1
        String text = "hill syllables 2 places 2 hours 4;name 0;name 0 1;name 1;goes 2 1 at 1;"
            + "says 1 0 0 at 0;says 0 0 0 at 0;says 0 0 0 at 1;";
        due("drawn thrice, 14", made(text + "deaf 2 60;deaf 1 14;").drawn(1, 1, 0), 1);
        due("drawn thrice, 39", made(text + "deaf 1 39;").drawn(1, 1, 0), 0);
        due("drawn thrice, 39 and 13", made(text.replace("says 0 0 0 at 1", "says 0 0 0 at 1;deaf 1 39")
            .replace("says 1 0 0 at 0;", "")).drawn(1, 1, 0), 0);
        due("not heard, not said", made("hill syllables 2 places 1 hours 4;name 0;name 0 1;name 1;deaf 1 100;"
            + "deaf 2 100;says 0 0 0 at 0;says 1 0 0 at 1;").drawn(1, 2, 0), 0);
    }

    private static void years() {
        // from seeds 0 to 5 folk 1 draws 0, 38, 8, 47, 17, 55
        HalvedNames x = deaf(40, 0);
        due("years(0, 1, 1, 0)", x.years(0, 1, 1, 0), 0);
        due("years(1, 1, 1, 0)", x.years(1, 1, 1, 0), 0);
        due("years(3, 1, 1, 0)", x.years(3, 1, 1, 0), 1);
        due("years(0, 3, 1, 0)", x.years(0, 3, 1, 0), 0);
        due("years(0, 4, 1, 0)", x.years(0, 4, 1, 0), 1);
        due("years(0, 6, 1, 0)", x.years(0, 6, 1, 0), 2);
        due("years(0, 20, 2, 0)", x.years(0, 20, 2, 0), 20);
        due("years(0, 20, 1, 1)", x.years(0, 20, 1, 1), 20);
        due("years(0, 20, 0, 1)", x.years(0, 20, 0, 1), 0);
        due("years(2000000000, 20, 2, 0)", x.years(2000000000, 20, 2, 0), 20);
        due("years(2000000001, 1, 2, 0)", x.years(2000000001, 1, 2, 0), -2);
        due("years(-1, 1, 2, 0)", x.years(-1, 1, 2, 0), -2);
        due("years(0, 0, 2, 0)", x.years(0, 0, 2, 0), -2);
        due("years(0, 21, 2, 0)", x.years(0, 21, 2, 0), -2);
        due("years(0, 1, 3, 0)", x.years(0, 1, 3, 0), -2);
        due("years(0, 1, 0, 3)", x.years(0, 1, 0, 3), -2);
    }

    // ---- 60 to 63: what is taught, counted, kept

    private static void teach() {
        HalvedNames x = made(TOLD);
        due("teach(1, 0, 2, 1)", x.teach(1, 0, 2, 1), 0);
        due("knew(1, 0)", x.knew(1, 0), 5);
        due("whole(1, 0)", x.whole(1, 0), 1);
        due("teach(1, 0, 2, 1)", x.teach(1, 0, 2, 1), 1);
        due("teach(1, 0, 0, 0)", x.teach(1, 0, 0, 0), 1);
        due("knew(1, 0)", x.knew(1, 0), 4);
        due("teach(1, 0, 0, 0)", x.teach(1, 0, 0, 0), 0);
        due("whole(1, 0)", x.whole(1, 0), -1);
        due("teach(1, 0, 3, 1)", x.teach(1, 0, 3, 1), -2);
        due("teach(1, 0, -1, 1)", x.teach(1, 0, -1, 1), -2);
        due("teach(1, 1, 0, 1)", x.teach(1, 1, 0, 1), -2);
        due("teach(4, 0, 0, 1)", x.teach(4, 0, 0, 1), -2);
        due("teach(0, 4, 0, 1)", x.teach(0, 4, 0, 1), -2);
        due("teach(1, 0, 0, 2)", x.teach(1, 0, 0, 2), -2);
        due("teach(1, 0, 0, -1)", x.teach(1, 0, 0, -1), -2);
        due("knew(1, 0)", x.knew(1, 0), 4);
    }

    private static void count() {
        HalvedNames x = made(TOLD);
        x.feed(0, 0, 0, 0, 0);
        x.row(3, 0, 0);
        x.row(1, 0, 7);
        int[] want = {4, 2, 6, 4, 4, 17, 20, 2};
        for (int what = 0; what < want.length; what++) {
            due("count(" + what + ")", x.count(what), want[what]);
        }
        due("count(8)", x.count(8), -1);
        due("count(-1)", x.count(-1), -1);
    }

    private static void image() {
        HalvedNames x = made(TOLD);
        due("image(3)", x.image(3), -2);
        due("image(-1)", x.image(-1), -2);
        due("image(2)", x.image(2), 0);
        x.unsay();
        x.unsay();
        due("image(0)", x.image(0), 0);
        x.back(2);
        due("whole(1, 0) of image 2", x.whole(1, 0), 5);
        x.back(0);
        due("whole(1, 0) of image 0", x.whole(1, 0), -1);
        due("count(4) of image 0", x.count(4), 2);
    }

    private static void back() {
        HalvedNames x = new HalvedNames();
        due("back(0)", x.back(0), -6);
        due("back(3)", x.back(3), -2);
        due("back(-1)", x.back(-1), -2);
        x.image(1);
        Feeder.hill(x, TOLD);
        x.image(0);
        x.move(1, 0, 2);
        x.teach(2, 0, 0, 1);
        x.say(0, 0, 0, 0);
        due("back(0)", x.back(0), 0);
        due("place(1, 2)", x.place(1, 2), 1);
        due("knew(2, 0)", x.knew(2, 0), 0);
        due("count(4)", x.count(4), 4);
        due("whole(2, 0)", x.whole(2, 0), -1);
        x.feed(0, 0, 0, 0, 0);
        x.row(0, 0, 1);
        due("back(1) to no hill", x.back(1), 0);
        due("count(5)", x.count(5), 0);
        due("rings()", x.rings(), -2);
        due("count(6): the tape stays", x.count(6), 20);
        due("count(7): slots stay", x.count(7), 1);
        due("back(0) again", x.back(0), 0);
        due("whole(1, 0)", x.whole(1, 0), 5);
        due("name(3, 2)", x.name(3, 2), 2);
        due("folk(2, 1)", x.folk(2, 1), 30);
        due("back(2)", x.back(2), -6);
    }

    // ---- 64 to 66: rows

    private static void row() {
        HalvedNames x = made(CLUES);
        due("row(0, 0, 60)", x.row(0, 0, 60), 0);
        due("row(1, 3, 0)", x.row(1, 3, 0), 0);
        due("row(0, 0, 61)", x.row(0, 0, 61), -2);
        due("row(4, 0, 1)", x.row(4, 0, 1), -2);
        due("row(-1, 0, 1)", x.row(-1, 0, 1), -2);
        due("row(0, 4, 1)", x.row(0, 4, 1), -2);
        due("row(0, -1, 1)", x.row(0, -1, 1), -2);
        due("row(0, 0, -1)", x.row(0, 0, -1), -3);
        due("write(0, 59, 1): the slot stays", x.write(0, 59, 1), 0);
        due("row(2, 0, -1)", x.row(2, 0, -1), -3);
        due("count(7)", x.count(7), 2);
        due("write(0, 0, 1)", x.write(0, 0, 1), 0);
        due("row(0, 0, 1)", x.row(0, 0, 1), 0);
        due("overheard(0): 0 again", x.overheard(0), 11);
        due("write(0, 1, 1)", x.write(0, 1, 1), -7);
    }

    private static void write() {
        HalvedNames x = made(CLUES);
        due("write(0, 0, 1)", x.write(0, 0, 1), -6);
        due("write(4, 0, 1)", x.write(4, 0, 1), -2);
        due("write(-1, 0, 1)", x.write(-1, 0, 1), -2);
        x.row(0, 0, 1);
        due("write(0, 1, 1)", x.write(0, 1, 1), -7);
        due("write(0, -1, 1)", x.write(0, -1, 1), -7);
        due("write(0, 0, 2)", x.write(0, 0, 2), 0);
        due("overheard(0)", x.overheard(0), 10);
        long[] cuts = {1L << 8, 1L << 16, 1L << 32};
        for (int width = 0; width < 4; width++) {
            x.row(0, width, 1);
            for (int k = 0; k < cuts.length; k++) {
                due("write", x.write(0, 0, cuts[k] + 1), 0);
                due("cut " + k + " to " + width, x.overheard(0), k >= width ? 13 : -2);
            }
        }
        x.row(0, 0, 1);
        x.write(0, 0, 0xff);
        due("write(0, 0, 255)", x.overheard(0), -2);
    }

    private static void paste() {
        HalvedNames x = made("hill syllables 9 places 1 hours 1;name 1 1 2 3 5;name 1 2 3 4 5;name 3 4 5 4 5;");
        setRow(x, 0, 0, 1, 2, 3, 4, 5);
        due("paste(0, 0, 1, 0, 1)", x.paste(0, 0, 1, 0, 1), -6);
        due("paste(1, 0, 0, 0, 1)", x.paste(1, 0, 0, 0, 1), -6);
        due("paste(4, 0, 0, 0, 1)", x.paste(4, 0, 0, 0, 1), -2);
        due("paste(0, 0, -1, 0, 1)", x.paste(0, 0, -1, 0, 1), -2);
        due("paste(0, 0, 0, 1, 3): as they were", x.paste(0, 0, 0, 1, 3), 0);
        due("overheard 1 1 2 3 5", x.overheard(0), 1);
        setRow(x, 0, 0, 1, 2, 3, 4, 5);
        due("paste(0, 2, 0, 0, 3)", x.paste(0, 2, 0, 0, 3), 0);
        due("overheard 3 4 5 4 5", x.overheard(0), 4);
        setRow(x, 1, 0, 0, 0);
        setRow(x, 2, 1, 0, 0);
        due("paste of unlike widths", x.paste(0, 0, 2, 0, 1), -8);
        due("paste of unlike widths beyond", x.paste(0, 9, 2, 0, 1), -8);
        due("paste(0, 1, 1, 0, 2)", x.paste(0, 1, 1, 0, 2), 0);
        due("overheard 4 5", x.overheard(1), 6);
        due("paste(0, 4, 1, 0, 2)", x.paste(0, 4, 1, 0, 2), -7);
        due("paste(0, 0, 1, 1, 2)", x.paste(0, 0, 1, 1, 2), -7);
        due("overheard 4 5 stays", x.overheard(1), 6);
        due("paste(0, 5, 1, 2, 0)", x.paste(0, 5, 1, 2, 0), 0);
        due("paste(0, 6, 1, 0, 0)", x.paste(0, 6, 1, 0, 0), -7);
        due("paste(0, 0, 1, 3, 0)", x.paste(0, 0, 1, 3, 0), -7);
        due("paste(0, -1, 1, 0, 1)", x.paste(0, -1, 1, 0, 1), -7);
        due("paste(0, 0, 1, -1, 1)", x.paste(0, 0, 1, -1, 1), -7);
        due("paste(0, 0, 1, 0, -1)", x.paste(0, 0, 1, 0, -1), -7);
        due("paste(0, MAX, 1, 0, MAX)", x.paste(0, MAX, 1, 0, MAX), -7);
        due("paste(0, 1, 1, 1, MAX)", x.paste(0, 1, 1, 1, MAX), -7);
    }
}
