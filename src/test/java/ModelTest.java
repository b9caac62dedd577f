import java.util.Random;

/** Random hills, texts with faults and calls of all kinds: HalvedNames against PlainModel. */
public final class ModelTest {
    private static final int RUNS = Integer.getInteger("runs", 400);
    private static final int CALLS = Integer.getInteger("calls", 250);

    private final Random random;
    private final HalvedNames names = new HalvedNames();
    private final PlainModel model = new PlainModel();
    private final StringBuilder log = new StringBuilder();
    private int wrong;

    private ModelTest(long seed) {
        random = new Random(seed);
    }

    public static void main(String[] args) {
        int wrong = 0;
        long first = Long.getLong("seed", 1);
        for (long seed = first; seed < first + RUNS && wrong < 5; seed++) {
            ModelTest test = new ModelTest(seed);
            test.run();
            if (test.wrong > 0) {
                wrong++;
                System.out.println("seed " + seed + ":\n" + test.log);
            }
        }
        System.out.println("ModelTest: " + (wrong == 0 ? RUNS + " runs agree" : wrong + " runs differ"));
        if (wrong > 0) {
            System.exit(1);
        }
    }

    private void run() {
        for (int i = 0; i < CALLS && wrong == 0; i++) {
            if (i % 60 == 0) {
                readText();
            } else {
                oneCall();
            }
        }
    }

    private int below(int n) {
        return random.nextInt(n);
    }

    private void check(String call, long got, long want) {
        log.append(call).append(" -> ").append(want);
        if (got != want) {
            wrong++;
            log.append(" but answered ").append(got);
        }
        log.append('\n');
    }

    // ---- texts

    private void readText() {
        String text = randomText();
        if (below(5) == 0) {
            text = spoilt(text);
        }
        if (text.length() > 1400) {
            text = text.substring(0, 1400);
        }
        int[] v = Feeder.numbers(text);
        for (int i = 0; i < v.length; i += 5) {
            check("feed", names.feed(v[i], v[i + 1], v[i + 2], v[i + 3], v[i + 4]),
                model.feed(v[i], v[i + 1], v[i + 2], v[i + 3], v[i + 4]));
        }
        log.append(text).append('\n');
        check("end", names.end(text.length()), model.end(text.length()));
        check("count(6)", names.count(6), model.count(6));
        check("hill", names.hill(), model.hill());
        for (int what = -1; what < 3; what++) {
            check("fault(" + what + ")", names.fault(what), model.fault(what));
        }
        for (int what = -1; what < 9; what++) {
            check("count(" + what + ")", names.count(what), model.count(what));
        }
    }

    private String randomText() {
        int syllables = 2 + below(below(2) == 0 ? 8 : 2);
        int places = 1 + below(below(2) == 0 ? 4 : 2);
        int hours = 1 + below(below(2) == 0 ? 24 : 6);
        StringBuilder text = new StringBuilder("hill syllables " + syllables + " places " + places
            + " hours " + hours + " ;");
        int folk = below(8) == 0 ? below(3) : 2 + below(5);
        int most = 1 + below(6);
        for (int f = 0; f < folk; f++) {
            text.append("name");
            int n = 1 + below(most);
            for (int i = 0; i < n; i++) {
                text.append(' ').append(below(below(3) == 0 ? 2 : syllables));
            }
            text.append(" ;\n");
        }
        int lines = folk < 2 ? 0 : below(50);
        int[] lengths = lengths(text.toString(), folk);
        int says = 0;
        int most12 = 9 + below(4);
        for (int k = 0; k < lines && text.length() < 1360; k++) {
            int a = below(folk);
            int b = (a + 1 + below(folk - 1)) % folk;
            switch (below(9)) {
                case 0 -> text.append("stammers " + a + " " + (1 + below(4)));
                case 1 -> text.append("deaf " + a + " " + below(101));
                case 2, 3 -> text.append("goes " + a + " " + below(places) + " at " + below(hours));
                case 4 -> text.append("knows " + a + " " + b + " " + below(lengths[b]));
                case 5 -> text.append("foe " + a + " " + b);
                default -> {
                    if (says < most12) {
                        int o = below(3) == 0 ? b : a;
                        text.append("says " + a + " " + o + " " + below(lengths[o]) + " at " + below(hours));
                        says++;
                    } else {
                        text.append("foe " + a + " " + b);
                    }
                }
            }
            text.append(';');
        }
        return text.toString();
    }

    private static int[] lengths(String text, int folk) {
        int[] lengths = new int[folk];
        String[] parts = text.split("name");
        for (int f = 0; f < folk; f++) {
            lengths[f] = (int) parts[f + 1].chars().filter(Character::isDigit).count();
        }
        return lengths;
    }

    private static final String[] PIECES = {
        "hill", "name", "name 1 ;", "says 0 0 0 at 0 ;", "says", "at", ";", "7", "0", "99", "007", "A", "-",
        "\t", "name 0 1 0 1 0 1 0 ;", "name 0 1 0 1 0 1 9 ;", "foe 1 1 ;", "4294967296", "", "\n\n", "é", "x",
        "hill syllables 2 places 1 hours 1 ;", "99999999999999999999", "deaf 0 101 ;", "stammers 0 0 ;",
    };

    private String spoilt(String text) {
        String spoilt = text;
        int times = 1 + below(2);
        for (int i = 0; i < times; i++) {
            int at = below(spoilt.length() + 1);
            int upTo = Math.min(spoilt.length(), at + below(4));
            String piece = PIECES[below(PIECES.length)];
            spoilt = switch (below(4)) {
                case 0 -> spoilt.substring(0, at) + spoilt.substring(upTo);
                case 1 -> spoilt.substring(0, at) + piece + spoilt.substring(upTo);
                case 2 -> spoilt.substring(0, at) + " " + piece + " " + spoilt.substring(at);
                default -> below(3) == 0 ? spoilt.substring(0, at) : spoilt + piece;
            };
        }
        return spoilt;
    }

    // ---- calls

    private static final int[] EXTREMES = {
        Integer.MIN_VALUE, Integer.MIN_VALUE + 1, -1000, -33, -32, 31, 32, 33, 63, 64, 144, 357913942, 1 << 30,
        Integer.MAX_VALUE - 1, Integer.MAX_VALUE,
    };

    private int odd(int usual) {
        return below(5) == 0 ? EXTREMES[below(EXTREMES.length)] : usual;
    }

    private int folkNumber() {
        return below(15) == 0 ? odd(below(10) - 2) : below(Math.max(1, model.hill.names.size()));
    }

    private int hourNumber() {
        return below(15) == 0 ? odd(below(30) - 3) : below(Math.max(1, model.hill.hours));
    }

    private int sayingNumber() {
        return below(15) == 0 ? odd(below(16) - 2) : below(Math.max(1, model.hill.sayings.size()));
    }

    private int slotNumber() {
        return below(15) == 0 ? odd(below(8) - 2) : below(4);
    }

    private void oneCall() {
        int a = folkNumber();
        int b = folkNumber();
        int h = hourNumber();
        int s = sayingNumber();
        int slot = slotNumber();
        switch (below(24)) {
            case 0, 1 -> told(a, b, h, s);
            case 2, 3 -> known(a, b, h, s);
            case 4, 5 -> calls(a, b, h);
            case 6, 7 -> biddings(a, b);
            case 8, 9 -> hushing(a, b);
            case 10 -> changes(a, b, h);
            case 11, 12 -> teams(a, h);
            case 13, 14 -> giving();
            case 15, 16 -> fitting(slot);
            case 17 -> loving(a, b);
            case 18, 19 -> hearing(a, b);
            case 20 -> images();
            default -> rows(slot);
        }
    }

    private void told(int a, int b, int h, int s) {
        int i = below(9) == 0 ? odd(-2) : below(9) - 1;
        check("name " + a + " " + i, names.name(a, i), model.name(a, i));
        check("length " + a, names.length(a), model.length(a));
        check("folk " + a + " " + i, names.folk(a, i), model.folk(a, i));
        check("place " + a + " " + h, names.place(a, h), model.place(a, h));
        check("saying " + s + " " + i, names.saying(s, i), model.saying(s, i));
        check("count " + b, names.count(b), model.count(b));
    }

    private void known(int a, int b, int h, int s) {
        check("knew " + a + " " + b, names.knew(a, b), model.knew(a, b));
        check("knows " + a + " " + b + " " + h, names.knows(a, b, h), model.knows(a, b, h));
        check("said " + s, names.said(s), model.said(s));
        check("heard " + s, names.heard(s), model.heard(s));
        check("learnt " + s, names.learnt(s), model.learnt(s));
        check("whole " + a + " " + b, names.whole(a, b), model.whole(a, b));
        check("bidders " + a + " " + h, names.bidders(a, h), model.bidders(a, h));
        check("danger " + a, names.danger(a), model.danger(a));
        check("foe " + a, names.foe(a), model.foe(a));
        check("secrets " + h, names.secrets(h), model.secrets(h));
        check("lore " + a + " " + h, names.lore(a, h), model.lore(a, h));
        check("wisest " + h, names.wisest(h), model.wisest(h));
        check("gossip " + a, names.gossip(a), model.gossip(a));
    }

    private void calls(int a, int b, int h) {
        check("call " + a + " " + b + " " + h, names.call(a, b, h), model.call(a, b, h));
        check("soonest " + a + " " + b, names.soonest(a, b), model.soonest(a, b));
        check("latest " + a + " " + b, names.latest(a, b), model.latest(a, b));
        check("called " + a + " " + h, names.called(a, h), model.called(a, h));
        check("met " + a + " " + b, names.met(a, b), model.met(a, b));
    }

    private void biddings(int a, int b) {
        check("obey " + a, names.obey(a), model.obey(a));
        check("namesakes " + a, names.namesakes(a), model.namesakes(a));
        check("clash " + a, names.clash(a), model.clash(a));
        check("under " + a, names.under(a), model.under(a));
        check("biddings " + a + " " + b, names.biddings(a, b), model.biddings(a, b));
        check("via " + a + " " + b, names.via(a, b), model.via(a, b));
        check("rings", names.rings(), model.rings());
    }

    private void hushing(int a, int b) {
        check("betrayed " + a + " " + b, names.betrayed(a, b), model.betrayed(a, b));
        check("traced " + a + " " + b, names.traced(a, b), model.traced(a, b));
        if (below(6) == 0) {
            check("hush " + a + " " + b, names.hush(a, b), model.hush(a, b));
            check("hushed " + a + " " + b, names.hushed(a, b), model.hushed(a, b));
        }
    }

    private void changes(int a, int b, int h) {
        int i = below(8) - 1;
        int is = below(12) == 0 ? below(5) - 2 : below(2);
        switch (below(7)) {
            case 0, 1 -> check("say " + a + " " + b + " " + i + " " + h, names.say(a, b, i, h), model.say(a, b, i, h));
            case 2 -> check("unsay", names.unsay(), model.unsay());
            case 3, 4 -> check("move " + a + " " + i + " " + h, names.move(a, i, h), model.move(a, i, h));
            default -> check("teach " + a + " " + b + " " + i + " " + is, names.teach(a, b, i, is),
                model.teach(a, b, i, is));
        }
    }

    private void teams(int a, int h) {
        int set = below(5) == 0 ? odd(below(70) - 3) : below(64);
        check("together " + set + " " + a + " " + h, names.together(set, a, h), model.together(set, a, h));
        check("team " + a + " " + h, names.team(a, h), model.team(a, h));
        check("teamed " + a + " " + h, names.teamed(a, h), model.teamed(a, h));
    }

    private void giving() {
        int n = below(10) == 0 ? odd(below(3) * 7 - 7) : 1 + below(3);
        int friends = slotNumber();
        int foes = slotNumber();
        if (below(3) != 0) {
            setRow(friends, below(4));
            setRow(foes, below(below(4) == 0 ? 10 : 4));
        }
        int i = below(8) - 1;
        String call = n + " " + friends + " " + foes;
        check("give " + call, names.give(n, friends, foes), model.give(n, friends, foes));
        check("given " + call + " " + i, names.given(n, friends, foes, i), model.given(n, friends, foes, i));
    }

    private void setRow(int slot, int n) {
        check("row " + slot + " 0 " + n, names.row(slot, 0, n), model.row(slot, 0, n));
        for (int k = 0; k < n; k++) {
            long v = below(40) == 0 ? below(100) : 1 + below(63);
            check("write " + slot + " " + k + " " + v, names.write(slot, k, v), model.write(slot, k, v));
        }
    }

    private void fitting(int slot) {
        boolean clues = below(2) == 0;
        int size = clues ? below(4) * 2 + (below(9) == 0 ? 1 : 0) : below(5);
        if (below(3) != 0) {
            int width = below(4);
            check("row " + slot + " " + width + " " + size, names.row(slot, width, size), model.row(slot, width, size));
            for (int k = 0; k < size; k++) {
                long v = below(30) == 0 ? below(14) - 3 : below(clues && k % 2 == 0 ? 6 : Math.max(1, model.hill.syllables));
                check("write " + slot + " " + k + " " + v, names.write(slot, k, v), model.write(slot, k, v));
            }
        }
        int n = below(12) == 0 ? odd(below(3) * 7 - 7) : 1 + below(6);
        if (model.hill.syllables > 4) {
            n = Math.min(n, 4);
        }
        check("overheard " + slot, names.overheard(slot), model.overheard(slot));
        check("spellings " + slot + " " + n, names.spellings(slot, n), model.spellings(slot, n));
        check("guess " + slot, names.guess(slot), model.guess(slot));
        check("listen " + slot, names.listen(slot), model.listen(slot));
        check("leaves " + slot, names.leaves(slot), model.leaves(slot));
    }

    private void loving(int a, int b) {
        int n = odd(below(10) - 2);
        check("love " + a + " " + b + " " + n, names.love(a, b, n), model.love(a, b, n));
        check("trust " + a + " " + b, names.trust(a, b), model.trust(a, b));
        int k = model.hill.syllables > 4 ? Math.min(n, 4) : n;
        check("free " + k, names.free(k), model.free(k));
        check("child " + n, names.child(n), model.child(n));
    }

    private void hearing(int a, int b) {
        int what = below(9) == 0 ? below(6) - 2 : below(2);
        check("chance " + a + " " + b + " " + what, names.chance(a, b, what), model.chance(a, b, what));
        int seed = switch (below(12)) {
            case 0 -> -1;
            case 1 -> 2000000000;
            case 2 -> 2000000001;
            default -> below(2000000000);
        };
        int n = below(12) == 0 ? odd(below(3) * 21 - 21) : 1 + below(20);
        check("drawn " + seed + " " + a + " " + b, names.drawn(seed, a, b), model.drawn(seed, a, b));
        check("years " + seed + " " + n + " " + a + " " + b, names.years(seed, n, a, b), model.years(seed, n, a, b));
    }

    private void images() {
        int k = below(9) == 0 ? odd(-2) : below(5) - 1;
        if (below(2) == 0) {
            check("image " + k, names.image(k), model.image(k));
        } else {
            check("back " + k, names.back(k), model.back(k));
        }
    }

    private void rows(int slot) {
        int other = slotNumber();
        int i = below(10) == 0 ? odd(below(70) - 5) : below(8);
        int k = below(10) == 0 ? odd(below(70) - 5) : below(8);
        int n = below(10) == 0 ? odd(below(70) - 5) : below(8);
        switch (below(3)) {
            case 0 -> {
                int width = below(5) == 0 ? below(6) - 1 : below(2);
                check("row " + slot + " " + width + " " + n, names.row(slot, width, n), model.row(slot, width, n));
            }
            case 1 -> {
                long v = below(4) == 0 ? random.nextLong() : below(8);
                check("write " + slot + " " + i + " " + v, names.write(slot, i, v), model.write(slot, i, v));
            }
            default -> check("paste " + slot + " " + i + " " + other + " " + k + " " + n,
                names.paste(slot, i, other, k, n), model.paste(slot, i, other, k, n));
        }
    }
}
