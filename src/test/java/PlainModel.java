import java.math.BigInteger;
import java.util.ArrayList;
import java.util.Arrays;
import java.util.HashMap;
import java.util.List;
import java.util.Map;
import java.util.TreeSet;
import java.util.regex.Matcher;
import java.util.regex.Pattern;

/**
 * The document once more, written for plainness alone: every answer is worked out anew from the
 * hill by trying all there is. ModelTest holds HalvedNames against it.
 */
final class PlainModel {
    record Saying(int who, int whose, int which, int when) { }

    /** What is told at one moment: by FOLK and other FOLK, the set of syllables known. */
    static final class Lore {
        final List<List<TreeSet<Integer>>> known = new ArrayList<>();
    }

    static final class Hill {
        int lines;
        int syllables;
        int places;
        int hours;
        List<List<Integer>> names = new ArrayList<>();
        List<Integer> stammers = new ArrayList<>();
        List<Integer> deaf = new ArrayList<>();
        List<TreeSet<Integer>> foes = new ArrayList<>();
        List<Map<Integer, Integer>> goes = new ArrayList<>();
        List<Map<Integer, Integer>> moved = new ArrayList<>();
        List<List<TreeSet<Integer>>> told = new ArrayList<>();
        List<Saying> sayings = new ArrayList<>();

        Hill copy() {
            Hill h = new Hill();
            h.lines = lines;
            h.syllables = syllables;
            h.places = places;
            h.hours = hours;
            names.forEach(n -> h.names.add(new ArrayList<>(n)));
            h.stammers.addAll(stammers);
            h.deaf.addAll(deaf);
            foes.forEach(f -> h.foes.add(new TreeSet<>(f)));
            goes.forEach(g -> h.goes.add(new HashMap<>(g)));
            moved.forEach(g -> h.moved.add(new HashMap<>(g)));
            for (List<TreeSet<Integer>> row : told) {
                List<TreeSet<Integer>> copy = new ArrayList<>();
                row.forEach(t -> copy.add(new TreeSet<>(t)));
                h.told.add(copy);
            }
            h.sayings.addAll(sayings);
            return h;
        }

        void addName(List<Integer> name) {
            names.add(name);
            stammers.add(1);
            deaf.add(0);
            foes.add(new TreeSet<>());
            goes.add(new HashMap<>());
            moved.add(new HashMap<>());
            told.add(new ArrayList<>());
            for (List<TreeSet<Integer>> row : told) {
                while (row.size() < names.size()) {
                    row.add(new TreeSet<>());
                }
            }
        }

        int place(int folk, int hour) {
            if (moved.get(folk).containsKey(hour)) {
                return moved.get(folk).get(hour);
            }
            for (int h = hour; h >= 0; h--) {
                if (goes.get(folk).containsKey(h)) {
                    return goes.get(folk).get(h);
                }
            }
            return 0;
        }
    }

    static final class Fault extends Exception {
        final int what;
        final int place;

        Fault(int what, int place) {
            this.what = what;
            this.place = place;
        }
    }

    /** Whether a FOLK hears a SAYING. */
    interface Ears {
        boolean hears(int saying, int folk);
    }

    Hill hill = new Hill();
    StringBuilder tape = new StringBuilder();
    int fault = 0;
    int faultPlace = -1;
    Hill[] images = new Hill[3];
    long[][] rows = new long[4][];
    int[] widths = new int[4];

    // ---- the text

    int feed(int a, int b, int c, int d, int e) {
        if (tape.length() + 20 > 1400) {
            return -1;
        }
        for (int v : new int[] {a, b, c, d, e}) {
            for (int k = 3; k >= 0; k--) {
                tape.append((char) (v >> (8 * k) & 255));
            }
        }
        return tape.length();
    }

    int end(int n) {
        if (n < 0 || n > tape.length()) {
            return -1;
        }
        tape.setLength(n);
        return n;
    }

    private List<String> texts;
    private List<Integer> starts;
    private int at;

    int hill() {
        String text = tape.toString();
        tape.setLength(0);
        texts = new ArrayList<>();
        starts = new ArrayList<>();
        Matcher m = Pattern.compile("[a-z]+|[0-9]+|[^ \n]", Pattern.DOTALL).matcher(text);
        while (m.find()) {
            texts.add(m.group());
            starts.add(m.start());
        }
        texts.add("");
        starts.add(text.length());
        at = 0;
        Hill h = new Hill();
        try {
            while (!texts.get(at).isEmpty()) {
                line(h);
                word(";");
                h.lines++;
            }
        } catch (Fault f) {
            fault = f.what;
            faultPlace = f.place;
            return -4;
        }
        fault = 0;
        faultPlace = -1;
        hill = h;
        return h.lines;
    }

    private void line(Hill h) throws Fault {
        String w = texts.get(at);
        int place = starts.get(at);
        boolean isHill = w.equals("hill");
        if (isHill != (h.lines == 0)) {
            throw new Fault(1, place);
        }
        at++;
        switch (w) {
            case "hill" -> {
                word("syllables");
                h.syllables = number(2, 9);
                word("places");
                h.places = number(1, 4);
                word("hours");
                h.hours = number(1, 24);
            }
            case "name" -> {
                if (h.names.size() == 6) {
                    throw new Fault(3, place);
                }
                List<Integer> name = new ArrayList<>();
                name.add(number(0, h.syllables - 1));
                while (!texts.get(at).equals(";")) {
                    int start = starts.get(at);
                    name.add(number(0, h.syllables - 1));
                    if (name.size() == 7) {
                        throw new Fault(3, start);
                    }
                }
                h.addName(name);
            }
            case "stammers" -> {
                int f = folk(h);
                h.stammers.set(f, number(1, 4));
            }
            case "deaf" -> {
                int f = folk(h);
                h.deaf.set(f, number(0, 100));
            }
            case "goes" -> {
                int f = folk(h);
                int p = number(0, h.places - 1);
                word("at");
                h.goes.get(f).put(number(0, h.hours - 1), p);
            }
            case "knows" -> {
                int f = folk(h);
                int o = unlike(h, f);
                h.told.get(f).get(o).add(number(0, h.names.get(o).size() - 1));
            }
            case "says" -> {
                if (h.sayings.size() == 12) {
                    throw new Fault(3, place);
                }
                int f = folk(h);
                int o = folk(h);
                int i = number(0, h.names.get(o).size() - 1);
                word("at");
                h.sayings.add(new Saying(f, o, i, number(0, h.hours - 1)));
            }
            case "foe" -> {
                int f = folk(h);
                h.foes.get(unlike(h, f)).add(f);
            }
            default -> throw new Fault(1, place);
        }
    }

    private void word(String w) throws Fault {
        if (!texts.get(at).equals(w)) {
            throw new Fault(1, starts.get(at));
        }
        at++;
    }

    private int number(int low, int high) throws Fault {
        String t = texts.get(at);
        if (!t.matches("[0-9]+")) {
            throw new Fault(1, starts.get(at));
        }
        BigInteger v = new BigInteger(t);
        if (v.compareTo(BigInteger.valueOf(low)) < 0 || v.compareTo(BigInteger.valueOf(high)) > 0) {
            throw new Fault(2, starts.get(at));
        }
        at++;
        return v.intValue();
    }

    private int folk(Hill h) throws Fault {
        return number(0, h.names.size() - 1);
    }

    private int unlike(Hill h, int other) throws Fault {
        int start = starts.get(at);
        int f = folk(h);
        if (f == other) {
            throw new Fault(2, start);
        }
        return f;
    }

    int fault(int what) {
        return what == 0 ? fault : what == 1 ? faultPlace : -1;
    }

    // ---- what there is

    private boolean isFolk(int... folk) {
        return Arrays.stream(folk).allMatch(f -> f >= 0 && f < hill.names.size());
    }

    private boolean isHour(int hour) {
        return hour >= 0 && hour < hill.hours;
    }

    private boolean isTwo(int folk, int other) {
        return isFolk(folk, other) && folk != other;
    }

    private boolean isSaying(int s) {
        return s >= 0 && s < hill.sayings.size();
    }

    int name(int folk, int i) {
        if (!isFolk(folk)) {
            return -2;
        }
        List<Integer> name = hill.names.get(folk);
        return i >= 0 && i < name.size() ? name.get(i) : -1;
    }

    int length(int folk) {
        return isFolk(folk) ? hill.names.get(folk).size() : -2;
    }

    int folk(int folk, int what) {
        if (!isFolk(folk) || what < 0 || what > 2) {
            return -2;
        }
        return what == 0 ? hill.stammers.get(folk)
            : what == 1 ? hill.deaf.get(folk) : bits(hill.foes.get(folk));
    }

    int place(int folk, int hour) {
        return isFolk(folk) && isHour(hour) ? hill.place(folk, hour) : -2;
    }

    int saying(int s, int what) {
        if (!isSaying(s) || what < 0 || what > 3) {
            return -2;
        }
        Saying t = hill.sayings.get(s);
        return new int[] {t.who, t.whose, t.which, t.when}[what];
    }

    private static int bits(Iterable<Integer> set) {
        int bits = 0;
        for (int i : set) {
            bits |= 1 << i;
        }
        return bits;
    }

    // ---- the sayings

    /** What comes of each SAYING: null (not said), or who hears it and who learns by it. */
    private List<List<TreeSet<Integer>>> outcome;

    private Lore ahead() {
        Lore lore = new Lore();
        for (int f = 0; f < hill.names.size(); f++) {
            lore.known.add(new ArrayList<>());
            for (int o = 0; o < hill.names.size(); o++) {
                TreeSet<Integer> set = new TreeSet<>(hill.told.get(f).get(o));
                if (f == o) {
                    for (int i = 0; i < hill.names.get(o).size(); i++) {
                        set.add(i);
                    }
                }
                lore.known.get(f).add(set);
            }
        }
        return lore;
    }

    /** What is known behind an hour (-1: ahead of all), without some SAYINGS, heard by some. */
    private Lore told(int lastHour, TreeSet<Integer> hushed, Ears ears) {
        Lore lore = ahead();
        outcome = new ArrayList<>();
        for (int s = 0; s < hill.sayings.size(); s++) {
            outcome.add(null);
        }
        for (int h = 0; h <= lastHour; h++) {
            for (int s = 0; s < hill.sayings.size(); s++) {
                Saying t = hill.sayings.get(s);
                if (t.when != h || hushed.contains(s)) {
                    continue;
                }
                if (!lore.known.get(t.who).get(t.whose).contains(t.which)) {
                    continue;
                }
                TreeSet<Integer> hearers = new TreeSet<>();
                TreeSet<Integer> learners = new TreeSet<>();
                for (int f = 0; f < hill.names.size(); f++) {
                    if (f != t.who && hill.place(f, h) == hill.place(t.who, h) && ears.hears(s, f)) {
                        hearers.add(f);
                        if (lore.known.get(f).get(t.whose).add(t.which)) {
                            learners.add(f);
                        }
                    }
                }
                outcome.set(s, List.of(hearers, learners));
            }
        }
        return lore;
    }

    private Lore behind(int hour) {
        return told(hour, new TreeSet<>(), (s, f) -> true);
    }

    private Lore inTheEnd() {
        return behind(hill.hours - 1);
    }

    private boolean isWhole(Lore lore, int folk, int other) {
        return lore.known.get(folk).get(other).size() == hill.names.get(other).size();
    }

    int knew(int folk, int other) {
        return isFolk(folk, other) ? bits(behind(-1).known.get(folk).get(other)) : -2;
    }

    int knows(int folk, int other, int hour) {
        if (!isFolk(folk, other) || !isHour(hour)) {
            return -2;
        }
        return bits(behind(hour).known.get(folk).get(other));
    }

    int said(int s) {
        if (!isSaying(s)) {
            return -2;
        }
        inTheEnd();
        return outcome.get(s) == null ? 0 : 1;
    }

    int heard(int s) {
        if (!isSaying(s)) {
            return -2;
        }
        inTheEnd();
        return outcome.get(s) == null ? 0 : bits(outcome.get(s).get(0));
    }

    int learnt(int s) {
        if (!isSaying(s)) {
            return -2;
        }
        inTheEnd();
        return outcome.get(s) == null ? 0 : bits(outcome.get(s).get(1));
    }

    int whole(int folk, int other) {
        if (!isTwo(folk, other)) {
            return -2;
        }
        for (int h = -1; h < hill.hours; h++) {
            if (isWhole(behind(h), folk, other)) {
                return h < 0 ? -3 : h;
            }
        }
        return -1;
    }

    int bidders(int folk, int hour) {
        if (!isFolk(folk) || !isHour(hour)) {
            return -2;
        }
        TreeSet<Integer> set = new TreeSet<>();
        Lore lore = behind(hour);
        for (int f = 0; f < hill.names.size(); f++) {
            if (f != folk && isWhole(lore, f, folk)) {
                set.add(f);
            }
        }
        return bits(set);
    }

    int danger(int folk) {
        if (!isFolk(folk)) {
            return -2;
        }
        int f = foe(folk);
        return f < 0 ? -1 : whole(f, folk);
    }

    int foe(int folk) {
        if (!isFolk(folk)) {
            return -2;
        }
        for (int h = -1; h < hill.hours; h++) {
            Lore lore = behind(h);
            for (int f : hill.foes.get(folk)) {
                if (isWhole(lore, f, folk)) {
                    return f;
                }
            }
        }
        return -1;
    }

    int secrets(int hour) {
        if (!isHour(hour)) {
            return -2;
        }
        TreeSet<Integer> set = new TreeSet<>();
        for (int f = 0; f < hill.names.size(); f++) {
            if (bidders(f, hour) == 0) {
                set.add(f);
            }
        }
        return bits(set);
    }

    int lore(int folk, int hour) {
        if (!isFolk(folk) || !isHour(hour)) {
            return -2;
        }
        int sum = 0;
        for (int o = 0; o < hill.names.size(); o++) {
            sum += o == folk ? 0 : behind(hour).known.get(folk).get(o).size();
        }
        return sum;
    }

    int wisest(int hour) {
        if (!isHour(hour)) {
            return -2;
        }
        int first = -1;
        for (int f = hill.names.size() - 1; f >= 0; f--) {
            if (first < 0 || lore(f, hour) >= lore(first, hour)) {
                first = f;
            }
        }
        return first;
    }

    int call(int folk, int other, int hour) {
        if (!isTwo(folk, other) || !isHour(hour)) {
            return -2;
        }
        if (!isWhole(behind(hour - 1), folk, other)) {
            return -5;
        }
        int h = hour;
        for (int i = 0; i < hill.names.get(other).size(); i++) {
            for (int k = 0; k < hill.stammers.get(folk); k++) {
                if (!isHour(h) || hill.place(folk, h) != hill.place(other, h)) {
                    return -1;
                }
                h++;
            }
        }
        return h - 1;
    }

    int soonest(int folk, int other) {
        if (!isTwo(folk, other)) {
            return -2;
        }
        for (int h = 0; h < hill.hours; h++) {
            if (call(folk, other, h) >= 0) {
                return h;
            }
        }
        return -1;
    }

    int latest(int folk, int other) {
        if (!isTwo(folk, other)) {
            return -2;
        }
        int last = -1;
        for (int h = 0; h < hill.hours; h++) {
            if (call(folk, other, h) >= 0) {
                last = h;
            }
        }
        return last;
    }

    int called(int folk, int hour) {
        if (!isFolk(folk) || !isHour(hour)) {
            return -2;
        }
        TreeSet<Integer> set = new TreeSet<>();
        for (int f = 0; f < hill.names.size(); f++) {
            if (call(f, folk, hour) >= 0) {
                set.add(f);
            }
        }
        return bits(set);
    }

    int met(int folk, int other) {
        if (!isTwo(folk, other)) {
            return -2;
        }
        TreeSet<Integer> set = new TreeSet<>();
        for (int h = 0; h < hill.hours; h++) {
            if (hill.place(folk, h) == hill.place(other, h)) {
                set.add(h);
            }
        }
        return bits(set);
    }

    int gossip(int folk) {
        if (!isFolk(folk)) {
            return -2;
        }
        int sum = 0;
        for (int s = 0; s < hill.sayings.size(); s++) {
            if (hill.sayings.get(s).who == folk) {
                sum += Integer.bitCount(learnt(s));
            }
        }
        return sum;
    }

    // ---- names

    private static boolean begins(List<Integer> a, List<Integer> b) {
        return a.size() <= b.size() && b.subList(0, a.size()).equals(a);
    }

    private interface NameTest {
        boolean fits(List<Integer> own, List<Integer> name);
    }

    private int folkWhere(int folk, boolean itself, NameTest test) {
        if (!isFolk(folk)) {
            return -2;
        }
        TreeSet<Integer> set = new TreeSet<>();
        for (int f = 0; f < hill.names.size(); f++) {
            if ((itself || f != folk) && test.fits(hill.names.get(f), hill.names.get(folk))) {
                set.add(f);
            }
        }
        return bits(set);
    }

    int obey(int folk) {
        return folkWhere(folk, true, PlainModel::begins);
    }

    int namesakes(int folk) {
        return folkWhere(folk, false, List::equals);
    }

    int clash(int folk) {
        return folkWhere(folk, false, (a, b) -> begins(a, b) || begins(b, a));
    }

    // ---- biddings

    /** All that a FOLK can know when it has bidden some. */
    private List<TreeSet<Integer>> gathered(Lore end, int folk, TreeSet<Integer> bidden) {
        List<TreeSet<Integer>> all = new ArrayList<>();
        for (int o = 0; o < hill.names.size(); o++) {
            TreeSet<Integer> set = new TreeSet<>(end.known.get(folk).get(o));
            for (int b : bidden) {
                set.addAll(end.known.get(b).get(o));
            }
            all.add(set);
        }
        return all;
    }

    /** All sets that can be bidden one by one. */
    private TreeSet<Integer> biddable(int folk) {
        Lore end = inTheEnd();
        TreeSet<Integer> found = new TreeSet<>(List.of(0));
        ArrayList<Integer> open = new ArrayList<>(List.of(0));
        while (!open.isEmpty()) {
            int bits = open.remove(open.size() - 1);
            TreeSet<Integer> bidden = setOf(bits);
            List<TreeSet<Integer>> known = gathered(end, folk, bidden);
            for (int f = 0; f < hill.names.size(); f++) {
                boolean isNew = f != folk && !bidden.contains(f);
                if (isNew && known.get(f).size() == hill.names.get(f).size() && found.add(bits | 1 << f)) {
                    open.add(bits | 1 << f);
                }
            }
        }
        return found;
    }

    private static TreeSet<Integer> setOf(int bits) {
        TreeSet<Integer> set = new TreeSet<>();
        for (int i = 0; i < 32; i++) {
            if ((bits >> i & 1) != 0) {
                set.add(i);
            }
        }
        return set;
    }

    int under(int folk) {
        if (!isFolk(folk)) {
            return -2;
        }
        int all = 0;
        for (int set : biddable(folk)) {
            all |= set;
        }
        return all;
    }

    private int least(Iterable<Integer> sets, int with) {
        int best = -1;
        for (int set : sets) {
            boolean has = (set & with) == with;
            if (has && (best < 0 || Integer.bitCount(set) < Integer.bitCount(best))) {
                best = set;
            }
        }
        return best;
    }

    int via(int folk, int other) {
        return isTwo(folk, other) ? least(biddable(folk), 1 << other) : -2;
    }

    int biddings(int folk, int other) {
        int set = via(folk, other);
        return set < 0 ? set : Integer.bitCount(set);
    }

    int rings() {
        if (hill.lines == 0) {
            return -2;
        }
        Lore end = inTheEnd();
        TreeSet<Integer> set = new TreeSet<>();
        for (int f = 0; f < hill.names.size(); f++) {
            if (comesBack(end, f, f, new TreeSet<>())) {
                set.add(f);
            }
        }
        return bits(set);
    }

    private boolean comesBack(Lore end, int from, int to, TreeSet<Integer> been) {
        for (int next = 0; next < hill.names.size(); next++) {
            if (next == from || !isWhole(end, from, next)) {
                continue;
            }
            if (next == to || been.add(next) && comesBack(end, next, to, been)) {
                return true;
            }
        }
        return false;
    }

    // ---- hushing

    private boolean wholeWithout(int folk, int other, TreeSet<Integer> hushed) {
        return isWhole(told(hill.hours - 1, hushed, (s, f) -> true), folk, other);
    }

    int betrayed(int folk, int other) {
        if (!isTwo(folk, other)) {
            return -2;
        }
        if (!wholeWithout(folk, other, new TreeSet<>())) {
            return 0;
        }
        TreeSet<Integer> set = new TreeSet<>();
        for (int f = 0; f < hill.names.size(); f++) {
            TreeSet<Integer> his = new TreeSet<>();
            for (int s = 0; s < hill.sayings.size(); s++) {
                if (hill.sayings.get(s).who == f) {
                    his.add(s);
                }
            }
            if (f != folk && f != other && !wholeWithout(folk, other, his)) {
                set.add(f);
            }
        }
        return bits(set);
    }

    int traced(int folk, int other) {
        if (!isTwo(folk, other)) {
            return -2;
        }
        TreeSet<Integer> set = new TreeSet<>();
        if (wholeWithout(folk, other, new TreeSet<>())) {
            for (int s = 0; s < hill.sayings.size(); s++) {
                if (!wholeWithout(folk, other, new TreeSet<>(List.of(s)))) {
                    set.add(s);
                }
            }
        }
        return bits(set);
    }

    int hushed(int folk, int other) {
        if (!isTwo(folk, other)) {
            return -2;
        }
        int best = -1;
        for (int set = 0; set < 1 << hill.sayings.size(); set++) {
            boolean isFewer = best < 0 || Integer.bitCount(set) < Integer.bitCount(best);
            if (isFewer && !wholeWithout(folk, other, setOf(set))) {
                best = set;
            }
        }
        return best;
    }

    int hush(int folk, int other) {
        int set = hushed(folk, other);
        return set < 0 ? set : Integer.bitCount(set);
    }

    // ---- changes

    int say(int folk, int other, int i, int hour) {
        if (!isFolk(folk, other) || !isHour(hour) || name(other, i) < 0) {
            return -2;
        }
        if (hill.sayings.size() == 12) {
            return -3;
        }
        hill.sayings.add(new Saying(folk, other, i, hour));
        return hill.sayings.size() - 1;
    }

    int unsay() {
        if (hill.lines == 0) {
            return -2;
        }
        if (hill.sayings.isEmpty()) {
            return -5;
        }
        hill.sayings.remove(hill.sayings.size() - 1);
        return hill.sayings.size();
    }

    int move(int folk, int place, int hour) {
        if (!isFolk(folk) || !isHour(hour) || place < 0 || place >= hill.places) {
            return -2;
        }
        int was = hill.place(folk, hour);
        hill.moved.get(folk).put(hour, place);
        return was;
    }

    int teach(int folk, int other, int i, int is) {
        if (!isTwo(folk, other) || name(other, i) < 0 || is < 0 || is > 1) {
            return -2;
        }
        TreeSet<Integer> set = hill.told.get(folk).get(other);
        boolean was = is == 1 ? !set.add(i) : set.remove(i);
        return was ? 1 : 0;
    }

    // ---- teams

    private boolean knowTogether(Lore lore, int bits, int folk) {
        TreeSet<Integer> all = new TreeSet<>();
        setOf(bits).forEach(f -> all.addAll(lore.known.get(f).get(folk)));
        return all.size() == hill.names.get(folk).size();
    }

    int together(int set, int folk, int hour) {
        if (set < 0 || set >= 1 << hill.names.size() || !isFolk(folk) || !isHour(hour)) {
            return -2;
        }
        return knowTogether(behind(hour), set, folk) ? 1 : 0;
    }

    int teamed(int folk, int hour) {
        if (!isFolk(folk) || !isHour(hour)) {
            return -2;
        }
        Lore lore = behind(hour);
        List<Integer> sets = new ArrayList<>();
        for (int set = 0; set < 1 << hill.names.size(); set++) {
            if (!setOf(set).contains(folk) && knowTogether(lore, set, folk)) {
                sets.add(set);
            }
        }
        return least(sets, 0);
    }

    int team(int folk, int hour) {
        int set = teamed(folk, hour);
        return set < 0 ? set : Integer.bitCount(set);
    }

    // ---- give

    private int[] firstGiving;

    private boolean isSlot(int slot) {
        return slot >= 0 && slot < 4;
    }

    /** Tries the sets of each syllable in order; the first of the fewest PIECES is kept. */
    private int tryGiving(int n, long[] friends, long[] foes, int[] sets, int i, int pieces, int best) {
        if (pieces >= best) {
            return best;
        }
        if (i == n) {
            for (long foe : foes) {
                boolean lacks = false;
                for (int k = 0; k < n; k++) {
                    lacks |= (sets[k] & foe) == 0;
                }
                if (!lacks) {
                    return best;
                }
            }
            firstGiving = sets.clone();
            return pieces;
        }
        int found = best;
        for (int set = 1; set < 64; set++) {
            boolean all = true;
            for (long friend : friends) {
                all &= (friend & set) != 0;
            }
            if (all) {
                sets[i] = set;
                found = tryGiving(n, friends, foes, sets, i + 1, pieces + Integer.bitCount(set), found);
            }
        }
        return found;
    }

    int give(int n, int friends, int foes) {
        if (!isSlot(friends) || !isSlot(foes) || n < 1 || n > 6 || rows[foes] != null && rows[foes].length > 8) {
            return -2;
        }
        if (rows[friends] == null || rows[foes] == null) {
            return -6;
        }
        for (long[] row : new long[][] {rows[friends], rows[foes]}) {
            if (Arrays.stream(row).anyMatch(v -> v < 1 || v > 63)) {
                return -2;
            }
        }
        firstGiving = null;
        int best = tryGiving(n, rows[friends], rows[foes], new int[n], 0, 0, 1000);
        return best == 1000 ? -1 : best;
    }

    int given(int n, int friends, int foes, int i) {
        int best = give(n, friends, foes);
        if (best < -1) {
            return best;
        }
        return best < 0 || i < 0 || i >= n ? -1 : firstGiving[i];
    }

    // ---- names that fit

    private String spell(List<Integer> name) {
        StringBuilder text = new StringBuilder();
        name.forEach(text::append);
        return text.toString();
    }

    private int wrongRow(int slot, boolean clues) {
        if (!isSlot(slot) || hill.lines == 0) {
            return -2;
        }
        if (rows[slot] == null) {
            return -6;
        }
        for (int i = 0; i < rows[slot].length; i++) {
            long bound = clues && i % 2 == 0 ? 6 : hill.syllables;
            if (rows[slot][i] < 0 || rows[slot][i] >= bound) {
                return -2;
            }
        }
        return clues && rows[slot].length % 2 != 0 ? -2 : 0;
    }

    private String fragment(int slot) {
        StringBuilder text = new StringBuilder();
        for (long v : rows[slot]) {
            text.append(v);
        }
        return text.toString();
    }

    int overheard(int slot) {
        int wrong = wrongRow(slot, false);
        if (wrong != 0) {
            return wrong;
        }
        TreeSet<Integer> set = new TreeSet<>();
        for (int f = 0; f < hill.names.size(); f++) {
            if (spell(hill.names.get(f)).contains(fragment(slot))) {
                set.add(f);
            }
        }
        return bits(set);
    }

    /** All names of n syllables, the least first. */
    private List<String> namesOf(int n) {
        List<String> all = new ArrayList<>(List.of(""));
        for (int i = 0; i < n; i++) {
            List<String> longer = new ArrayList<>();
            for (String name : all) {
                for (int s = 0; s < hill.syllables; s++) {
                    longer.add(name + s);
                }
            }
            all = longer;
        }
        return all;
    }

    int spellings(int slot, int n) {
        if (n < 1 || n > 6) {
            return -2;
        }
        int wrong = wrongRow(slot, false);
        if (wrong != 0) {
            return wrong;
        }
        String part = fragment(slot);
        return (int) namesOf(n).stream().filter(name -> name.contains(part)).count();
    }

    private List<Integer> fitting(int slot) {
        List<Integer> list = new ArrayList<>();
        for (int f = 0; f < hill.names.size(); f++) {
            boolean fits = true;
            for (int i = 0; i < rows[slot].length; i += 2) {
                fits &= name(f, (int) rows[slot][i]) == rows[slot][i + 1];
            }
            if (fits) {
                list.add(f);
            }
        }
        return list;
    }

    int guess(int slot) {
        int wrong = wrongRow(slot, true);
        return wrong != 0 ? wrong : bits(fitting(slot));
    }

    private int left(List<Integer> folk, int at) {
        Map<Integer, Integer> groups = new HashMap<>();
        folk.forEach(f -> groups.merge(name(f, at), 1, Integer::sum));
        return groups.values().stream().mapToInt(v -> v).max().orElse(0);
    }

    int listen(int slot) {
        int wrong = wrongRow(slot, true);
        if (wrong != 0) {
            return wrong;
        }
        List<Integer> folk = fitting(slot);
        int best = -1;
        for (int at = 5; at >= 0; at--) {
            if (left(folk, at) < folk.size() && (best < 0 || left(folk, at) <= left(folk, best))) {
                best = at;
            }
        }
        return best;
    }

    int leaves(int slot) {
        int best = listen(slot);
        if (best < -1) {
            return best;
        }
        List<Integer> folk = fitting(slot);
        return best < 0 ? folk.size() : left(folk, best);
    }

    // ---- lovers and children

    private int orders(int a, int b, int i, int k, int n) {
        if (i > a || k > b || Math.abs(i - k) > n) {
            return 0;
        }
        return i == a && k == b ? 1 : orders(a, b, i + 1, k, n) + orders(a, b, i, k + 1, n);
    }

    int love(int folk, int other, int n) {
        if (!isTwo(folk, other) || n < 0 || n > 6) {
            return -2;
        }
        return orders(length(folk), length(other), 0, 0, n);
    }

    int trust(int folk, int other) {
        if (!isTwo(folk, other)) {
            return -2;
        }
        int n = 0;
        while (love(folk, other, n) == 0) {
            n++;
        }
        return n;
    }

    private List<String> freeNames(int n) {
        List<String> names = new ArrayList<>();
        for (String name : namesOf(n)) {
            boolean isFree = true;
            for (List<Integer> other : hill.names) {
                String text = spell(other);
                isFree &= !text.startsWith(name) && !name.startsWith(text);
            }
            if (isFree) {
                names.add(name);
            }
        }
        return names;
    }

    int free(int n) {
        return hill.lines == 0 || n < 1 || n > 6 ? -2 : freeNames(n).size();
    }

    int child(int what) {
        if (hill.lines == 0 || what < -1) {
            return -2;
        }
        for (int n = 1; n <= 6; n++) {
            List<String> names = freeNames(n);
            if (!names.isEmpty()) {
                return what < 0 ? n : what < n ? names.get(0).charAt(what) - '0' : -1;
            }
        }
        return -1;
    }

    // ---- mishearings

    long chance(int folk, int other, int what) {
        if (!isTwo(folk, other) || what < 0 || what > 1) {
            return -2;
        }
        inTheEnd();
        List<Integer> tellings = new ArrayList<>();
        for (int s = 0; s < hill.sayings.size(); s++) {
            Saying t = hill.sayings.get(s);
            boolean hears = outcome.get(s) != null && outcome.get(s).get(0).contains(folk);
            if (hears && t.whose != folk && !hill.told.get(folk).get(t.whose).contains(t.which)) {
                tellings.add(s);
            }
        }
        if (tellings.size() > 8) {
            return -1;
        }
        BigInteger above = BigInteger.ZERO;
        for (int ways = 0; ways < 1 << tellings.size(); ways++) {
            BigInteger weight = BigInteger.ONE;
            TreeSet<Integer> missed = new TreeSet<>();
            for (int k = 0; k < tellings.size(); k++) {
                boolean misses = (ways >> k & 1) == 0;
                int odds = misses ? hill.deaf.get(folk) : 100 - hill.deaf.get(folk);
                weight = weight.multiply(BigInteger.valueOf(odds));
                if (misses) {
                    missed.add(tellings.get(k));
                }
            }
            Lore lore = told(hill.hours - 1, new TreeSet<>(), (s, f) -> f != folk || !missed.contains(s));
            if (isWhole(lore, folk, other)) {
                above = above.add(weight);
            }
        }
        BigInteger below = BigInteger.valueOf(100).pow(tellings.size());
        BigInteger common = above.gcd(below);
        return (what == 0 ? above : below).divide(common).longValue();
    }

    private Lore drawnLore(long seed) {
        BigInteger[] x = {BigInteger.valueOf(seed)};
        return told(hill.hours - 1, new TreeSet<>(), (s, f) -> {
            x[0] = x[0].multiply(BigInteger.valueOf(1103515245)).add(BigInteger.valueOf(12345));
            x[0] = x[0].mod(BigInteger.valueOf(2147483648L));
            return x[0].intValue() / 65536 % 100 >= hill.deaf.get(f);
        });
    }

    int drawn(int seed, int folk, int other) {
        if (seed < 0 || seed > 2000000000 || !isFolk(folk, other)) {
            return -2;
        }
        return bits(drawnLore(seed).known.get(folk).get(other));
    }

    int years(int seed, int n, int folk, int other) {
        if (seed < 0 || seed > 2000000000 || n < 1 || n > 20 || !isFolk(folk, other)) {
            return -2;
        }
        int sum = 0;
        for (long s = seed; s < (long) seed + n; s++) {
            sum += isWhole(drawnLore(s), folk, other) ? 1 : 0;
        }
        return sum;
    }

    // ---- counts, images, rows

    int count(int what) {
        return switch (what) {
            case 0 -> hill.syllables;
            case 1 -> hill.places;
            case 2 -> hill.hours;
            case 3 -> hill.names.size();
            case 4 -> hill.sayings.size();
            case 5 -> hill.lines;
            case 6 -> tape.length();
            case 7 -> (int) Arrays.stream(rows).filter(r -> r != null).count();
            default -> -1;
        };
    }

    int image(int k) {
        if (k < 0 || k > 2) {
            return -2;
        }
        images[k] = hill.copy();
        return 0;
    }

    int back(int k) {
        if (k < 0 || k > 2) {
            return -2;
        }
        if (images[k] == null) {
            return -6;
        }
        hill = images[k].copy();
        return 0;
    }

    int row(int slot, int width, int n) {
        if (!isSlot(slot) || width < 0 || width > 3 || n > 60) {
            return -2;
        }
        if (n < 0) {
            return -3;
        }
        rows[slot] = new long[n];
        widths[slot] = width;
        return 0;
    }

    int write(int slot, int i, long v) {
        if (!isSlot(slot)) {
            return -2;
        }
        if (rows[slot] == null) {
            return -6;
        }
        if (i < 0 || i >= rows[slot].length) {
            return -7;
        }
        int size = 8 << widths[slot];
        rows[slot][i] = size == 64 ? v : v & (1L << size) - 1;
        return 0;
    }

    int paste(int slot, int i, int to, int k, int n) {
        if (!isSlot(slot) || !isSlot(to)) {
            return -2;
        }
        if (rows[slot] == null || rows[to] == null) {
            return -6;
        }
        if (widths[slot] != widths[to]) {
            return -8;
        }
        boolean isBelow = i < 0 || k < 0 || n < 0;
        if (isBelow || (long) i + n > rows[slot].length || (long) k + n > rows[to].length) {
            return -7;
        }
        long[] copy = rows[slot].clone();
        for (int step = 0; step < n; step++) {
            rows[to][k + step] = copy[i + step];
        }
        return 0;
    }
}
