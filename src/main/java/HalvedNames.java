/** Names in halves: a hill told as a text, and what can be asked of it. */
public final class HalvedNames {
    public static final int NONE = -1;

    private static final int NO_SUCH = -2;
    private static final int FULL = -3;
    private static final int BELOW_NOTHING = -3;
    private static final int AHEAD_OF_ALL = -3;
    private static final int FAULTY = -4;
    private static final int NOT_NOW = -5;
    private static final int HAS_NOTHING = -6;
    private static final int BEYOND = -7;
    private static final int UNLIKE_WIDTHS = -8;

    private static final int TAPE_MOST = 1400;
    private static final int FED_AT_ONCE = 20;
    private static final int FOLK_MOST = 6;
    private static final int NAME_MOST = 6;
    private static final int SAYINGS_MOST = 12;
    private static final int HOURS_MOST = 24;
    private static final int PAIRS = FOLK_MOST * FOLK_MOST;
    private static final int IMAGES = 3;
    private static final int SLOTS = 4;
    private static final int ROW_MOST = 60;
    private static final int WIDTHS = 4;
    private static final int FOES_MOST = 8;
    private static final int SETS = 64;
    private static final int CHANCES_MOST = 8;
    private static final int SEED_MOST = 2000000000;
    private static final int YEARS_MOST = 20;

    private final Reader reader;
    private final Tape tape;
    private final Hill hill;
    private final Hill draft;
    private final Course course;
    private final Story story;
    private final Bidding bidding;
    private final Slots slots;
    private final Sharing sharing;
    private final Listening listening;
    private final Naming naming;
    private final Hill[] images;
    /** Which images keep something, as bits. */
    private int kept;

    public HalvedNames() {
        reader = new Reader();
        tape = reader.tape;
        hill = new Hill();
        draft = new Hill();
        course = new Course();
        story = new Story();
        bidding = new Bidding();
        slots = new Slots();
        sharing = new Sharing();
        listening = new Listening();
        naming = new Naming();
        images = new Hill[IMAGES];
        for (int k = 0; k < images.length; k++) {
            images[k] = new Hill();
        }
    }

    // ---- the text and its hill

    public int feed(int a, int b, int c, int d, int e) {
        if (tape.size + FED_AT_ONCE > TAPE_MOST) {
            return NONE;
        }
        tape.append(a);
        tape.append(b);
        tape.append(c);
        tape.append(d);
        tape.append(e);
        return tape.size;
    }

    public int end(int n) {
        if (n < 0 || n > tape.size) {
            return NONE;
        }
        tape.size = n;
        return n;
    }

    public int hill() {
        reader.read(draft);
        tape.size = 0;
        if (reader.fault != 0) {
            return FAULTY;
        }
        hill.copyFrom(draft);
        settle();
        return hill.lines;
    }

    public int fault(int what) {
        switch (what) {
            case 0:
                return reader.fault;
            case 1:
                return reader.place;
            default:
                return NONE;
        }
    }

    // ---- what the hill tells

    public int name(int folk, int i) {
        if (!hill.hasFolk(folk)) {
            return NO_SUCH;
        }
        return hill.hasSyllable(folk, i) ? hill.syllableOf(folk, i) : NONE;
    }

    public int length(int folk) {
        return hill.hasFolk(folk) ? hill.lengthOf(folk) : NO_SUCH;
    }

    public int folk(int folk, int what) {
        if (!hill.hasFolk(folk)) {
            return NO_SUCH;
        }
        switch (what) {
            case 0:
                return Rows.at(hill.stammering, folk);
            case 1:
                return Rows.at(hill.deafness, folk);
            case 2:
                return Rows.at(hill.foes, folk);
            default:
                return NO_SUCH;
        }
    }

    public int place(int folk, int hour) {
        return hill.hasFolk(folk) && hill.hasHour(hour) ? hill.placeOf(folk, hour) : NO_SUCH;
    }

    public int saying(int saying, int what) {
        if (!hill.hasSaying(saying)) {
            return NO_SUCH;
        }
        switch (what) {
            case 0:
                return Rows.at(hill.who, saying);
            case 1:
                return Rows.at(hill.whose, saying);
            case 2:
                return Rows.at(hill.which, saying);
            case 3:
                return Rows.at(hill.when, saying);
            default:
                return NO_SUCH;
        }
    }

    // ---- who knows what

    public int knew(int folk, int other) {
        return hill.hasFolk(folk) && hill.hasFolk(other) ? story.bits(folk, other, 0) : NO_SUCH;
    }

    public int knows(int folk, int other, int hour) {
        if (!hill.hasFolk(folk) || !hill.hasFolk(other) || !hill.hasHour(hour)) {
            return NO_SUCH;
        }
        return story.bits(folk, other, hour + 1);
    }

    public int said(int saying) {
        if (!hill.hasSaying(saying)) {
            return NO_SUCH;
        }
        return story.uttered >> saying & 1;
    }

    public int heard(int saying) {
        return hill.hasSaying(saying) ? Rows.at(story.hearers, saying) : NO_SUCH;
    }

    public int learnt(int saying) {
        return hill.hasSaying(saying) ? Rows.at(story.learners, saying) : NO_SUCH;
    }

    public int whole(int folk, int other) {
        if (!areTwo(folk, other)) {
            return NO_SUCH;
        }
        return toldMoment(story.firstWhole(hill, folk, other));
    }

    public int bidders(int folk, int hour) {
        if (!hill.hasFolk(folk) || !hill.hasHour(hour)) {
            return NO_SUCH;
        }
        return story.knowers(hill, folk, hour + 1);
    }

    public int danger(int folk) {
        if (!hill.hasFolk(folk)) {
            return NO_SUCH;
        }
        int first = story.firstFoe(hill, folk);
        return first < 0 ? NONE : toldMoment(story.firstWhole(hill, first, folk));
    }

    public int foe(int folk) {
        return hill.hasFolk(folk) ? story.firstFoe(hill, folk) : NO_SUCH;
    }

    public int secrets(int hour) {
        if (!hill.hasHour(hour)) {
            return NO_SUCH;
        }
        int set = 0;
        for (int folk = 0; folk < hill.people; folk++) {
            if (story.knowers(hill, folk, hour + 1) == 0) {
                set |= 1 << folk;
            }
        }
        return set;
    }

    public int lore(int folk, int hour) {
        if (!hill.hasFolk(folk) || !hill.hasHour(hour)) {
            return NO_SUCH;
        }
        return story.syllablesOfOthers(hill, folk, hour + 1);
    }

    public int wisest(int hour) {
        if (!hill.hasHour(hour)) {
            return NO_SUCH;
        }
        int first = NONE;
        int most = -1;
        for (int folk = 0; folk < hill.people; folk++) {
            int known = story.syllablesOfOthers(hill, folk, hour + 1);
            if (known > most) {
                most = known;
                first = folk;
            }
        }
        return first;
    }

    // ---- calls

    public int call(int folk, int other, int hour) {
        if (!areTwo(folk, other) || !hill.hasHour(hour)) {
            return NO_SUCH;
        }
        return lastOfCall(folk, other, hour);
    }

    public int soonest(int folk, int other) {
        if (!areTwo(folk, other)) {
            return NO_SUCH;
        }
        for (int hour = 0; hour < hill.hours; hour++) {
            if (lastOfCall(folk, other, hour) >= 0) {
                return hour;
            }
        }
        return NONE;
    }

    public int latest(int folk, int other) {
        if (!areTwo(folk, other)) {
            return NO_SUCH;
        }
        for (int hour = hill.hours - 1; hour >= 0; hour--) {
            if (lastOfCall(folk, other, hour) >= 0) {
                return hour;
            }
        }
        return NONE;
    }

    public int called(int folk, int hour) {
        if (!hill.hasFolk(folk) || !hill.hasHour(hour)) {
            return NO_SUCH;
        }
        int set = 0;
        for (int caller = 0; caller < hill.people; caller++) {
            if (caller != folk && lastOfCall(caller, folk, hour) >= 0) {
                set |= 1 << caller;
            }
        }
        return set;
    }

    /** The hour of the last syllable, or why there is none: NOT_NOW or NONE. */
    private int lastOfCall(int folk, int other, int hour) {
        if (!story.isWhole(hill, folk, other, hour)) {
            return NOT_NOW;
        }
        int last = hour + hill.lengthOf(other) * Rows.at(hill.stammering, folk) - 1;
        if (!hill.hasHour(last)) {
            return NONE;
        }
        for (int h = hour; h <= last; h++) {
            if (hill.placeOf(folk, h) != hill.placeOf(other, h)) {
                return NONE;
            }
        }
        return last;
    }

    public int met(int folk, int other) {
        if (!areTwo(folk, other)) {
            return NO_SUCH;
        }
        int set = 0;
        for (int hour = 0; hour < hill.hours; hour++) {
            if (hill.placeOf(folk, hour) == hill.placeOf(other, hour)) {
                set |= 1 << hour;
            }
        }
        return set;
    }

    public int gossip(int folk) {
        if (!hill.hasFolk(folk)) {
            return NO_SUCH;
        }
        int sum = 0;
        for (int s = 0; s < hill.sayings; s++) {
            if (Rows.at(hill.who, s) == folk) {
                sum += Integer.bitCount(Rows.at(story.learners, s));
            }
        }
        return sum;
    }

    // ---- names against names

    public int obey(int folk) {
        if (!hill.hasFolk(folk)) {
            return NO_SUCH;
        }
        int set = 0;
        for (int other = 0; other < hill.people; other++) {
            if (hill.begins(other, folk)) {
                set |= 1 << other;
            }
        }
        return set;
    }

    public int namesakes(int folk) {
        if (!hill.hasFolk(folk)) {
            return NO_SUCH;
        }
        int set = 0;
        for (int other = 0; other < hill.people; other++) {
            if (other != folk && hill.begins(other, folk) && hill.begins(folk, other)) {
                set |= 1 << other;
            }
        }
        return set;
    }

    public int clash(int folk) {
        if (!hill.hasFolk(folk)) {
            return NO_SUCH;
        }
        int set = 0;
        for (int other = 0; other < hill.people; other++) {
            if (other != folk && (hill.begins(other, folk) || hill.begins(folk, other))) {
                set |= 1 << other;
            }
        }
        return set;
    }

    // ---- biddings

    public int under(int folk) {
        return hill.hasFolk(folk) ? bidding.brought(hill, story, folk, hill.everyone()) : NO_SUCH;
    }

    public int biddings(int folk, int other) {
        if (!areTwo(folk, other)) {
            return NO_SUCH;
        }
        return sizeOrNone(bidding.fewest(hill, story, folk, other));
    }

    public int via(int folk, int other) {
        return areTwo(folk, other) ? bidding.fewest(hill, story, folk, other) : NO_SUCH;
    }

    public int rings() {
        return hill.isThere() ? bidding.rounds(hill, story) : NO_SUCH;
    }

    // ---- what is hushed

    public int betrayed(int folk, int other) {
        if (!areTwo(folk, other)) {
            return NO_SUCH;
        }
        if (!story.isWhole(hill, folk, other, hill.hours)) {
            return 0;
        }
        int set = 0;
        for (int third = 0; third < hill.people; third++) {
            boolean isThird = third != folk && third != other;
            if (isThird && !course.isWholeWithout(hill, folk, other, hill.sayingsOf(third))) {
                set |= 1 << third;
            }
        }
        return set;
    }

    public int traced(int folk, int other) {
        if (!areTwo(folk, other)) {
            return NO_SUCH;
        }
        if (!story.isWhole(hill, folk, other, hill.hours)) {
            return 0;
        }
        int set = 0;
        for (int s = 0; s < hill.sayings; s++) {
            if (!course.isWholeWithout(hill, folk, other, 1 << s)) {
                set |= 1 << s;
            }
        }
        return set;
    }

    public int hush(int folk, int other) {
        return areTwo(folk, other) ? sizeOrNone(fewestHushed(folk, other)) : NO_SUCH;
    }

    public int hushed(int folk, int other) {
        return areTwo(folk, other) ? fewestHushed(folk, other) : NO_SUCH;
    }

    /** The least set of the fewest, or NONE: with all hushed the least is known that can be. */
    private int fewestHushed(int folk, int other) {
        int sets = 1 << hill.sayings;
        if (course.isWholeWithout(hill, folk, other, sets - 1)) {
            return NONE;
        }
        for (int size = 0; size <= hill.sayings; size++) {
            for (int set = 0; set < sets; set++) {
                boolean isOfSize = Integer.bitCount(set) == size;
                if (isOfSize && !course.isWholeWithout(hill, folk, other, set)) {
                    return set;
                }
            }
        }
        return NONE;
    }

    // ---- changes of the hill

    public int say(int folk, int other, int i, int hour) {
        if (!hill.hasFolk(folk) || !hill.hasSyllable(other, i) || !hill.hasHour(hour)) {
            return NO_SUCH;
        }
        if (hill.sayings >= SAYINGS_MOST) {
            return FULL;
        }
        int number = hill.sayings;
        hill.addSaying(folk, other, i, hour);
        settle();
        return number;
    }

    public int unsay() {
        if (!hill.isThere()) {
            return NO_SUCH;
        }
        if (hill.sayings <= 0) {
            return NOT_NOW;
        }
        hill.sayings--;
        settle();
        return hill.sayings;
    }

    public int move(int folk, int place, int hour) {
        if (!hill.hasFolk(folk) || !hill.hasHour(hour) || place < 0 || place >= hill.places) {
            return NO_SUCH;
        }
        int was = hill.placeOf(folk, hour);
        Rows.put(hill.stays, folk * HOURS_MOST + hour, place);
        settle();
        return was;
    }

    public int teach(int folk, int other, int i, int is) {
        if (!areTwo(folk, other) || !hill.hasSyllable(other, i) || is < 0 || is > 1) {
            return NO_SUCH;
        }
        int pair = folk * FOLK_MOST + other;
        int bits = Rows.at(hill.told, pair);
        Rows.put(hill.told, pair, is == 1 ? bits | 1 << i : bits & ~(1 << i));
        settle();
        return bits >> i & 1;
    }

    // ---- teams

    public int together(int set, int folk, int hour) {
        boolean isSet = set >= 0 && set <= hill.everyone();
        if (!isSet || !hill.hasFolk(folk) || !hill.hasHour(hour)) {
            return NO_SUCH;
        }
        return story.isWholeFor(hill, set, folk, hour + 1) ? 1 : 0;
    }

    public int team(int folk, int hour) {
        if (!hill.hasFolk(folk) || !hill.hasHour(hour)) {
            return NO_SUCH;
        }
        return sizeOrNone(story.fewestTogether(hill, folk, hour + 1));
    }

    public int teamed(int folk, int hour) {
        if (!hill.hasFolk(folk) || !hill.hasHour(hour)) {
            return NO_SUCH;
        }
        return story.fewestTogether(hill, folk, hour + 1);
    }

    // ---- pieces given out

    public int give(int n, int friends, int foes) {
        int wrong = wrongGiving(n, friends, foes);
        return wrong != 0 ? wrong : sharing.solve(slots, n, friends, foes);
    }

    public int given(int n, int friends, int foes, int i) {
        int wrong = wrongGiving(n, friends, foes);
        if (wrong != 0) {
            return wrong;
        }
        if (i < 0 || i >= n || sharing.solve(slots, n, friends, foes) < 0) {
            return NONE;
        }
        return Rows.at(sharing.shares, i);
    }

    private int wrongGiving(int n, int friends, int foes) {
        if (n < 1 || n > NAME_MOST || !slots.hasSlot(friends) || !slots.hasSlot(foes)) {
            return NO_SUCH;
        }
        if (slots.sizeOf(foes) > FOES_MOST) {
            return NO_SUCH;
        }
        if (slots.isBare(friends) || slots.isBare(foes)) {
            return HAS_NOTHING;
        }
        boolean areSets = slots.areWithin(friends, 1, SETS - 1) && slots.areWithin(foes, 1, SETS - 1);
        return areSets ? 0 : NO_SUCH;
    }

    // ---- names that fit

    public int overheard(int slot) {
        int wrong = wrongFragment(slot);
        return wrong != 0 ? wrong : listening.folkWith(hill, slots, slot);
    }

    public int spellings(int slot, int n) {
        if (n < 1 || n > NAME_MOST) {
            return NO_SUCH;
        }
        int wrong = wrongFragment(slot);
        return wrong != 0 ? wrong : listening.namesWith(hill, slots, slot, n);
    }

    private int wrongFragment(int slot) {
        if (!slots.hasSlot(slot) || !hill.isThere()) {
            return NO_SUCH;
        }
        if (slots.isBare(slot)) {
            return HAS_NOTHING;
        }
        return slots.areWithin(slot, 0, hill.syllables - 1) ? 0 : NO_SUCH;
    }

    public int guess(int slot) {
        int wrong = wrongClues(slot);
        return wrong != 0 ? wrong : listening.folkFitting(hill, slots, slot);
    }

    public int listen(int slot) {
        int wrong = wrongClues(slot);
        if (wrong != 0) {
            return wrong;
        }
        return listening.bestSyllable(hill, listening.folkFitting(hill, slots, slot));
    }

    public int leaves(int slot) {
        int wrong = wrongClues(slot);
        if (wrong != 0) {
            return wrong;
        }
        int folk = listening.folkFitting(hill, slots, slot);
        int best = listening.bestSyllable(hill, folk);
        return best < 0 ? Integer.bitCount(folk) : listening.leftAtWorst(hill, folk, best);
    }

    private int wrongClues(int slot) {
        if (!slots.hasSlot(slot) || !hill.isThere()) {
            return NO_SUCH;
        }
        if (slots.isBare(slot)) {
            return HAS_NOTHING;
        }
        return listening.areClues(hill, slots, slot) ? 0 : NO_SUCH;
    }

    // ---- lovers, and names for a child

    public int love(int folk, int other, int n) {
        if (!areTwo(folk, other) || n < 0 || n > NAME_MOST) {
            return NO_SUCH;
        }
        return naming.tellings(hill.lengthOf(folk), hill.lengthOf(other), n);
    }

    public int trust(int folk, int other) {
        if (!areTwo(folk, other)) {
            return NO_SUCH;
        }
        for (int n = 0; n <= NAME_MOST; n++) {
            if (naming.tellings(hill.lengthOf(folk), hill.lengthOf(other), n) > 0) {
                return n;
            }
        }
        return NONE;
    }

    public int free(int n) {
        if (!hill.isThere() || n < 1 || n > NAME_MOST) {
            return NO_SUCH;
        }
        return naming.freeFrom(hill, n, 0);
    }

    public int child(int what) {
        if (!hill.isThere() || what < NONE) {
            return NO_SUCH;
        }
        int size = naming.fewestFree(hill);
        if (what == NONE || what >= size) {
            return what == NONE ? size : NONE;
        }
        naming.findLeastFree(hill, size);
        return Rows.at(naming.spelt, what);
    }

    // ---- mishearings

    public long chance(int folk, int other, int what) {
        if (!areTwo(folk, other) || what < 0 || what > 1) {
            return NO_SUCH;
        }
        int tellings = tellingsTo(folk);
        if (Integer.bitCount(tellings) > CHANCES_MOST) {
            return NONE;
        }
        long above = course.weightWhole(hill, folk, other, tellings);
        long below = Rows.power(100, Integer.bitCount(tellings));
        long common = Rows.commonDivisor(above, below);
        if (common < 1) {
            return NONE;
        }
        return (what == 0 ? above : below) / common;
    }

    /** SAYINGS, as bits, that a FOLK hears of what it did not know ahead of all. */
    private int tellingsTo(int folk) {
        int set = 0;
        for (int s = 0; s < hill.sayings; s++) {
            boolean hears = (Rows.at(story.hearers, s) >> folk & 1) != 0;
            int knewBits = story.bits(folk, Rows.at(hill.whose, s), 0);
            if (hears && (knewBits >> Rows.at(hill.which, s) & 1) == 0) {
                set |= 1 << s;
            }
        }
        return set;
    }

    public int drawn(int seed, int folk, int other) {
        if (seed < 0 || seed > SEED_MOST || !hill.hasFolk(folk) || !hill.hasFolk(other)) {
            return NO_SUCH;
        }
        course.playDrawn(hill, seed);
        return course.bits(folk, other);
    }

    public int years(int seed, int n, int folk, int other) {
        if (seed < 0 || seed > SEED_MOST || n < 1 || n > YEARS_MOST) {
            return NO_SUCH;
        }
        if (!hill.hasFolk(folk) || !hill.hasFolk(other)) {
            return NO_SUCH;
        }
        int sum = 0;
        for (int year = 0; year < n; year++) {
            course.playDrawn(hill, (long) seed + year);
            if (course.bits(folk, other) == hill.allOf(other)) {
                sum++;
            }
        }
        return sum;
    }

    // ---- counts and images

    public int count(int what) {
        switch (what) {
            case 0:
                return hill.syllables;
            case 1:
                return hill.places;
            case 2:
                return hill.hours;
            case 3:
                return hill.people;
            case 4:
                return hill.sayings;
            case 5:
                return hill.lines;
            case 6:
                return tape.size;
            case 7:
                return slots.countRows();
            default:
                return NONE;
        }
    }

    public int image(int k) {
        Hill image = imageAt(k);
        if (image == null) {
            return NO_SUCH;
        }
        image.copyFrom(hill);
        kept |= 1 << k;
        return 0;
    }

    public int back(int k) {
        Hill image = imageAt(k);
        if (image == null) {
            return NO_SUCH;
        }
        if ((kept >> k & 1) == 0) {
            return HAS_NOTHING;
        }
        hill.copyFrom(image);
        settle();
        return 0;
    }

    private Hill imageAt(int k) {
        return k >= 0 && k < images.length ? images[k] : null;
    }

    // ---- rows

    public int row(int slot, int width, int n) {
        if (!slots.hasSlot(slot) || width < 0 || width >= WIDTHS || n > ROW_MOST) {
            return NO_SUCH;
        }
        if (n < 0) {
            return BELOW_NOTHING;
        }
        slots.make(slot, width, n);
        return 0;
    }

    public int write(int slot, int i, long v) {
        if (!slots.hasSlot(slot)) {
            return NO_SUCH;
        }
        if (slots.isBare(slot)) {
            return HAS_NOTHING;
        }
        if (i < 0 || i >= slots.sizeOf(slot)) {
            return BEYOND;
        }
        slots.set(slot, i, v);
        return 0;
    }

    public int paste(int slot, int i, int to, int k, int n) {
        if (!slots.hasSlot(slot) || !slots.hasSlot(to)) {
            return NO_SUCH;
        }
        if (slots.isBare(slot) || slots.isBare(to)) {
            return HAS_NOTHING;
        }
        if (slots.widthOf(slot) != slots.widthOf(to)) {
            return UNLIKE_WIDTHS;
        }
        if (!slots.hasRange(slot, i, n) || !slots.hasRange(to, k, n)) {
            return BEYOND;
        }
        slots.shift(slot, i, to, k, n);
        return 0;
    }

    // ---- helpers of the face

    /** The story is told anew whenever the hill has changed. */
    private void settle() {
        course.plan(hill);
        story.tell(hill, course);
    }

    private boolean areTwo(int folk, int other) {
        return hill.hasFolk(folk) && hill.hasFolk(other) && folk != other;
    }

    /** A moment (0 ahead of all, hour + 1 behind an hour) as it is answered. */
    private static int toldMoment(int moment) {
        if (moment < 0) {
            return NONE;
        }
        return moment == 0 ? AHEAD_OF_ALL : moment - 1;
    }

    private static int sizeOrNone(int set) {
        return set < 0 ? NONE : Integer.bitCount(set);
    }

    // ---- the classes inside

    /** Rows of numbers, touched within their bounds alone, and small sums. */
    static final class Rows {
        static int at(int[] row, int i) {
            return i >= 0 && i < row.length ? row[i] : 0;
        }

        static void put(int[] row, int i, int v) {
            if (i >= 0 && i < row.length) {
                row[i] = v;
            }
        }

        static void fill(int[] row, int v) {
            for (int i = 0; i < row.length; i++) {
                row[i] = v;
            }
        }

        static void copy(int[] from, int[] to) {
            for (int i = 0; i < from.length && i < to.length; i++) {
                to[i] = from[i];
            }
        }

        static long power(int base, int exponent) {
            long product = 1;
            for (int i = 0; i < exponent; i++) {
                product *= base;
            }
            return product;
        }

        static long commonDivisor(long a, long b) {
            long x = a;
            long y = b;
            // Euclid needs some ninety steps for the greatest longs.
            for (int step = 0; step < 200 && y != 0; step++) {
                long rest = x % y;
                x = y;
                y = rest;
            }
            return x;
        }
    }

    /** The TAPE, and the TOKEN on it that is looked at. */
    static final class Tape {
        static final int END = 0;
        static final int WORD = 1;
        static final int NUMBER = 2;
        static final int SIGN = 3;
        static final int NO_TOKEN = 4;
        private static final int NUMBER_ENOUGH = 1000000;

        final byte[] bytes = new byte[TAPE_MOST];
        int size;
        int kind;
        int start;
        int stop;
        int number;

        void append(int v) {
            for (int shift = 24; shift >= 0; shift -= 8) {
                if (size >= 0 && size < bytes.length) {
                    bytes[size] = (byte) (v >>> shift);
                    size++;
                }
            }
        }

        /** The byte at a place, -1 where there is none. */
        int byteAt(int i) {
            return i >= 0 && i < size && i < bytes.length ? bytes[i] & 255 : -1;
        }

        void rewind() {
            kind = END;
            start = 0;
            stop = 0;
            number = 0;
        }

        void advance() {
            int i = stop;
            while (i < size && (byteAt(i) == ' ' || byteAt(i) == 10)) {
                i++;
            }
            start = i;
            int b = byteAt(i);
            if (b < 0) {
                kind = END;
                stop = i;
            } else if (b >= 'a' && b <= 'z') {
                kind = WORD;
                stop = runEnd(i, 'a', 'z');
            } else if (b >= '0' && b <= '9') {
                kind = NUMBER;
                stop = runEnd(i, '0', '9');
                number = numberUpTo(stop);
            } else {
                kind = b == ';' ? SIGN : NO_TOKEN;
                stop = i + 1;
            }
        }

        private int runEnd(int from, int low, int high) {
            int i = from;
            while (i >= 0 && i < size && i < bytes.length && bytes[i] >= low && bytes[i] <= high) {
                i++;
            }
            return i;
        }

        /** Behind so many digits that it is far above every bound the rest is left, lest it wrap. */
        private int numberUpTo(int end) {
            int value = 0;
            for (int i = start; i >= 0 && i < end && i < bytes.length && value < NUMBER_ENOUGH; i++) {
                value = value * 10 + bytes[i] - '0';
            }
            return value;
        }

        boolean isWord(String word) {
            if (kind != WORD || word.length() != stop - start) {
                return false;
            }
            for (int i = 0; i < word.length(); i++) {
                if (byteAt(start + i) != word.charAt(i)) {
                    return false;
                }
            }
            return true;
        }
    }

    /** Reads the TAPE as a HILL, up to the first FAULT. */
    static final class Reader {
        private static final int MISPLACED = 1;
        private static final int OUT_OF_BOUNDS = 2;
        private static final int TOO_MANY = 3;

        final Tape tape = new Tape();
        int fault;
        int place = NONE;

        void read(Hill hill) {
            hill.clear();
            fault = 0;
            place = NONE;
            tape.rewind();
            tape.advance();
            for (int i = 0; i < TAPE_MOST && fault == 0 && tape.kind != Tape.END; i++) {
                readLine(hill);
                expectSign();
                hill.lines++;
                tape.advance();
            }
            hill.spreadStays();
        }

        private void readLine(Hill hill) {
            if (hill.lines == 0) {
                readHill(hill);
            } else if (tape.isWord("name")) {
                readName(hill);
            } else if (tape.isWord("stammers")) {
                int folk = expectFolk(hill);
                Rows.put(hill.stammering, folk, expectNumber(1, 4));
                tape.advance();
            } else if (tape.isWord("deaf")) {
                int folk = expectFolk(hill);
                Rows.put(hill.deafness, folk, expectNumber(0, 100));
                tape.advance();
            } else if (tape.isWord("goes")) {
                readGoes(hill);
            } else if (tape.isWord("knows")) {
                readKnows(hill);
            } else if (tape.isWord("says")) {
                readSays(hill);
            } else if (tape.isWord("foe")) {
                int foe = expectFolk(hill);
                int folk = expectFolk(hill);
                refuseAlike(foe, folk);
                Rows.put(hill.foes, folk, Rows.at(hill.foes, folk) | 1 << foe);
                tape.advance();
            } else {
                fail(MISPLACED);
            }
        }

        private void readHill(Hill hill) {
            if (!tape.isWord("hill")) {
                fail(MISPLACED);
            }
            expectWord("syllables");
            hill.syllables = expectNumber(2, 9);
            expectWord("places");
            hill.places = expectNumber(1, 4);
            expectWord("hours");
            hill.hours = expectNumber(1, HOURS_MOST);
            tape.advance();
        }

        private void readName(Hill hill) {
            if (hill.people >= FOLK_MOST) {
                fail(TOO_MANY);
                return;
            }
            int folk = hill.people;
            hill.people++;
            Rows.put(hill.stammering, folk, 1);
            for (int i = 0; i <= NAME_MOST && fault == 0; i++) {
                tape.advance();
                if (i > 0 && tape.kind == Tape.SIGN) {
                    return;
                }
                int syllable = numberHere(0, hill.syllables - 1);
                if (i == NAME_MOST) {
                    fail(TOO_MANY);
                }
                Rows.put(hill.names, folk * NAME_MOST + i, syllable);
                Rows.put(hill.lengths, folk, i + 1);
            }
        }

        private void readGoes(Hill hill) {
            int folk = expectFolk(hill);
            int where = expectNumber(0, hill.places - 1);
            expectWord("at");
            int hour = expectNumber(0, hill.hours - 1);
            Rows.put(hill.stays, folk * HOURS_MOST + hour, where);
            tape.advance();
        }

        private void readKnows(Hill hill) {
            int folk = expectFolk(hill);
            int other = expectFolk(hill);
            refuseAlike(folk, other);
            int i = expectNumber(0, hill.lengthOf(other) - 1);
            int pair = folk * FOLK_MOST + other;
            Rows.put(hill.told, pair, Rows.at(hill.told, pair) | 1 << i);
            tape.advance();
        }

        private void readSays(Hill hill) {
            if (hill.sayings >= SAYINGS_MOST) {
                fail(TOO_MANY);
                return;
            }
            int folk = expectFolk(hill);
            int other = expectFolk(hill);
            int i = expectNumber(0, hill.lengthOf(other) - 1);
            expectWord("at");
            int hour = expectNumber(0, hill.hours - 1);
            hill.addSaying(folk, other, i, hour);
            tape.advance();
        }

        private int expectFolk(Hill hill) {
            tape.advance();
            return numberHere(0, hill.people - 1);
        }

        private int expectNumber(int low, int high) {
            tape.advance();
            return numberHere(low, high);
        }

        /** Looks at the second of two FOLK still. */
        private void refuseAlike(int folk, int other) {
            if (folk == other) {
                fail(OUT_OF_BOUNDS);
            }
        }

        /** The number that is looked at; 0 behind a FAULT. */
        private int numberHere(int low, int high) {
            if (tape.kind != Tape.NUMBER) {
                fail(MISPLACED);
            } else if (tape.number < low || tape.number > high) {
                fail(OUT_OF_BOUNDS);
            }
            return fault == 0 ? tape.number : 0;
        }

        private void expectWord(String word) {
            tape.advance();
            if (!tape.isWord(word)) {
                fail(MISPLACED);
            }
        }

        /** Each LINE leaves the TOKEN behind its last word or number to be looked at. */
        private void expectSign() {
            if (tape.kind != Tape.SIGN) {
                fail(MISPLACED);
            }
        }

        /** The first FAULT stays, whatever the rest of its LINE asks for. */
        private void fail(int which) {
            if (fault == 0) {
                fault = which;
                place = tape.start;
            }
        }
    }

    /** What a text tells; no HILL while it has no LINES. */
    static final class Hill {
        int lines;
        int syllables;
        int places;
        int hours;
        int people;
        int sayings;
        final int[] lengths = new int[FOLK_MOST];
        final int[] names = new int[FOLK_MOST * NAME_MOST];
        final int[] stammering = new int[FOLK_MOST];
        final int[] deafness = new int[FOLK_MOST];
        final int[] foes = new int[FOLK_MOST];
        final int[] stays = new int[FOLK_MOST * HOURS_MOST];
        final int[] told = new int[PAIRS];
        final int[] who = new int[SAYINGS_MOST];
        final int[] whose = new int[SAYINGS_MOST];
        final int[] which = new int[SAYINGS_MOST];
        final int[] when = new int[SAYINGS_MOST];

        void clear() {
            lines = 0;
            syllables = 0;
            places = 0;
            hours = 0;
            people = 0;
            sayings = 0;
            Rows.fill(lengths, 0);
            Rows.fill(names, 0);
            Rows.fill(stammering, 0);
            Rows.fill(deafness, 0);
            Rows.fill(foes, 0);
            Rows.fill(stays, NONE);
            Rows.fill(told, 0);
            Rows.fill(who, 0);
            Rows.fill(whose, 0);
            Rows.fill(which, 0);
            Rows.fill(when, 0);
        }

        void copyFrom(Hill from) {
            lines = from.lines;
            syllables = from.syllables;
            places = from.places;
            hours = from.hours;
            people = from.people;
            sayings = from.sayings;
            Rows.copy(from.lengths, lengths);
            Rows.copy(from.names, names);
            Rows.copy(from.stammering, stammering);
            Rows.copy(from.deafness, deafness);
            Rows.copy(from.foes, foes);
            Rows.copy(from.stays, stays);
            Rows.copy(from.told, told);
            Rows.copy(from.who, who);
            Rows.copy(from.whose, whose);
            Rows.copy(from.which, which);
            Rows.copy(from.when, when);
        }

        boolean isThere() {
            return lines > 0;
        }

        boolean hasFolk(int folk) {
            return folk >= 0 && folk < people;
        }

        boolean hasHour(int hour) {
            return hour >= 0 && hour < hours;
        }

        boolean hasSaying(int saying) {
            return saying >= 0 && saying < sayings;
        }

        boolean hasSyllable(int folk, int i) {
            return hasFolk(folk) && i >= 0 && i < lengthOf(folk);
        }

        int lengthOf(int folk) {
            return folk >= 0 && folk < lengths.length ? lengths[folk] : 0;
        }

        int syllableOf(int folk, int i) {
            return i >= 0 && i < lengthOf(folk) ? Rows.at(names, folk * NAME_MOST + i) : NONE;
        }

        /** All syllables of a name, as bits. */
        int allOf(int folk) {
            return (1 << lengthOf(folk)) - 1;
        }

        /** All FOLK, as bits. */
        int everyone() {
            return (1 << people) - 1;
        }

        int placeOf(int folk, int hour) {
            return hasFolk(folk) && hasHour(hour) ? Rows.at(stays, folk * HOURS_MOST + hour) : 0;
        }

        /** While a text is read, stays has what it tells alone, and NONE between. */
        void spreadStays() {
            for (int folk = 0; folk < FOLK_MOST; folk++) {
                int where = 0;
                for (int hour = 0; hour < HOURS_MOST; hour++) {
                    int i = folk * HOURS_MOST + hour;
                    if (Rows.at(stays, i) >= 0) {
                        where = Rows.at(stays, i);
                    }
                    Rows.put(stays, i, where);
                }
            }
        }

        void addSaying(int folk, int other, int i, int hour) {
            if (sayings < SAYINGS_MOST) {
                Rows.put(who, sayings, folk);
                Rows.put(whose, sayings, other);
                Rows.put(which, sayings, i);
                Rows.put(when, sayings, hour);
                sayings++;
            }
        }

        int sayingsOf(int folk) {
            int set = 0;
            for (int s = 0; s < sayings; s++) {
                if (Rows.at(who, s) == folk) {
                    set |= 1 << s;
                }
            }
            return set;
        }

        /** Whether the name of the first is the beginning of the other's, or all of it. */
        boolean begins(int first, int other) {
            if (lengthOf(first) > lengthOf(other)) {
                return false;
            }
            for (int i = 0; i < lengthOf(first); i++) {
                if (syllableOf(first, i) != syllableOf(other, i)) {
                    return false;
                }
            }
            return true;
        }
    }

    /** One course of the SAYINGS from what is known ahead of all to the end. */
    static final class Course {
        private static final long DRAW_FACTOR = 1103515245L;
        private static final long DRAW_STEP = 12345L;
        private static final long DRAW_BOUND = 2147483648L;

        /** SAYINGS as they come: by hours, then by numbers. */
        private final int[] order = new int[SAYINGS_MOST];
        private final int[] present = new int[SAYINGS_MOST];
        private final int[] known = new int[PAIRS];

        void plan(Hill hill) {
            int n = 0;
            for (int hour = 0; hour < hill.hours; hour++) {
                for (int s = 0; s < hill.sayings; s++) {
                    if (Rows.at(hill.when, s) == hour) {
                        Rows.put(order, n, s);
                        n++;
                    }
                }
            }
            for (int s = 0; s < hill.sayings; s++) {
                Rows.put(present, s, othersWith(hill, Rows.at(hill.who, s), Rows.at(hill.when, s)));
            }
        }

        private static int othersWith(Hill hill, int folk, int hour) {
            int set = 0;
            for (int other = 0; other < hill.people; other++) {
                if (other != folk && hill.placeOf(other, hour) == hill.placeOf(folk, hour)) {
                    set |= 1 << other;
                }
            }
            return set;
        }

        void begin(Hill hill) {
            Rows.copy(hill.told, known);
            for (int folk = 0; folk < hill.people; folk++) {
                Rows.put(known, folk * FOLK_MOST + folk, hill.allOf(folk));
            }
        }

        int bits(int folk, int other) {
            return Rows.at(known, folk * FOLK_MOST + other);
        }

        int presentAt(int s) {
            return Rows.at(present, s);
        }

        int inOrder(int i) {
            return Rows.at(order, i);
        }

        boolean canSay(Hill hill, int s) {
            int bits = bits(Rows.at(hill.who, s), Rows.at(hill.whose, s));
            return (bits >> Rows.at(hill.which, s) & 1) != 0;
        }

        /** Those who hear a SAYING know it from then on; who did not yet, as bits. */
        int spread(Hill hill, int s, int hearers) {
            int whose = Rows.at(hill.whose, s);
            int bit = 1 << Rows.at(hill.which, s);
            int learners = 0;
            for (int folk = 0; folk < hill.people; folk++) {
                if ((hearers >> folk & 1) != 0 && (bits(folk, whose) & bit) == 0) {
                    Rows.put(known, folk * FOLK_MOST + whose, bits(folk, whose) | bit);
                    learners |= 1 << folk;
                }
            }
            return learners;
        }

        boolean isWholeWithout(Hill hill, int folk, int other, int hushed) {
            begin(hill);
            for (int i = 0; i < hill.sayings; i++) {
                int s = inOrder(i);
                if ((hushed >> s & 1) == 0 && canSay(hill, s)) {
                    spread(hill, s, presentAt(s));
                }
            }
            return bits(folk, other) == hill.allOf(other);
        }

        private boolean isWholeMissing(Hill hill, int folk, int other, int missed) {
            begin(hill);
            for (int i = 0; i < hill.sayings; i++) {
                int s = inOrder(i);
                if (canSay(hill, s)) {
                    int hearers = (missed >> s & 1) == 0 ? presentAt(s) : presentAt(s) & ~(1 << folk);
                    spread(hill, s, hearers);
                }
            }
            return bits(folk, other) == hill.allOf(other);
        }

        /** Of 100 to the power of the tellings, how many ways of hearing them end WHOLE. */
        long weightWhole(Hill hill, int folk, int other, int tellings) {
            long sum = 0;
            int missed = 0;
            for (int turn = 0; turn < 1 << CHANCES_MOST; turn++) {
                long weight = weightOf(tellings, missed, Rows.at(hill.deafness, folk));
                if (weight > 0 && isWholeMissing(hill, folk, other, missed)) {
                    sum += weight;
                }
                // The next set within the tellings; behind the last comes the empty one.
                missed = (missed - tellings) & tellings;
                if (missed == 0) {
                    return sum;
                }
            }
            return sum;
        }

        private static long weightOf(int tellings, int missed, int deaf) {
            long weight = 1;
            for (int s = 0; s < SAYINGS_MOST; s++) {
                if ((tellings >> s & 1) != 0) {
                    weight *= (missed >> s & 1) != 0 ? deaf : 100 - deaf;
                }
            }
            return weight;
        }

        void playDrawn(Hill hill, long seed) {
            long x = seed;
            begin(hill);
            for (int i = 0; i < hill.sayings; i++) {
                int s = inOrder(i);
                if (canSay(hill, s)) {
                    int hearers = presentAt(s);
                    for (int folk = 0; folk < hill.people; folk++) {
                        if ((presentAt(s) >> folk & 1) != 0) {
                            x = (DRAW_FACTOR * x + DRAW_STEP) % DRAW_BOUND;
                            if (x / 65536 % 100 < Rows.at(hill.deafness, folk)) {
                                hearers &= ~(1 << folk);
                            }
                        }
                    }
                    spread(hill, s, hearers);
                }
            }
        }
    }

    /** What is known at each moment (0 ahead of all, hour + 1 behind an hour) as all is told. */
    static final class Story {
        private final int[] known = new int[(HOURS_MOST + 1) * PAIRS];
        final int[] hearers = new int[SAYINGS_MOST];
        final int[] learners = new int[SAYINGS_MOST];
        int uttered;

        void tell(Hill hill, Course course) {
            uttered = 0;
            Rows.fill(hearers, 0);
            Rows.fill(learners, 0);
            course.begin(hill);
            keep(course, 0);
            int next = 0;
            for (int hour = 0; hour < hill.hours; hour++) {
                for (; next < hill.sayings && Rows.at(hill.when, course.inOrder(next)) == hour; next++) {
                    tellOne(hill, course, course.inOrder(next));
                }
                keep(course, hour + 1);
            }
        }

        private void tellOne(Hill hill, Course course, int s) {
            if (course.canSay(hill, s)) {
                uttered |= 1 << s;
                Rows.put(hearers, s, course.presentAt(s));
                Rows.put(learners, s, course.spread(hill, s, course.presentAt(s)));
            }
        }

        private void keep(Course course, int moment) {
            for (int folk = 0; folk < FOLK_MOST; folk++) {
                for (int other = 0; other < FOLK_MOST; other++) {
                    Rows.put(known, moment * PAIRS + folk * FOLK_MOST + other, course.bits(folk, other));
                }
            }
        }

        int bits(int folk, int other, int moment) {
            return Rows.at(known, moment * PAIRS + folk * FOLK_MOST + other);
        }

        boolean isWhole(Hill hill, int folk, int other, int moment) {
            return bits(folk, other, moment) == hill.allOf(other);
        }

        /** The first moment at which it is known WHOLE, or NONE. */
        int firstWhole(Hill hill, int folk, int other) {
            for (int moment = 0; moment <= hill.hours; moment++) {
                if (isWhole(hill, folk, other, moment)) {
                    return moment;
                }
            }
            return NONE;
        }

        /** Other FOLK that know a name WHOLE. */
        int knowers(Hill hill, int folk, int moment) {
            int set = 0;
            for (int other = 0; other < hill.people; other++) {
                if (other != folk && isWhole(hill, other, folk, moment)) {
                    set |= 1 << other;
                }
            }
            return set;
        }

        int firstFoe(Hill hill, int folk) {
            int first = NONE;
            int soonest = HOURS_MOST + 1;
            for (int foe = 0; foe < hill.people; foe++) {
                if ((Rows.at(hill.foes, folk) >> foe & 1) != 0) {
                    int moment = firstWhole(hill, foe, folk);
                    if (moment >= 0 && moment < soonest) {
                        soonest = moment;
                        first = foe;
                    }
                }
            }
            return first;
        }

        int syllablesOfOthers(Hill hill, int folk, int moment) {
            int sum = 0;
            for (int other = 0; other < hill.people; other++) {
                if (other != folk) {
                    sum += Integer.bitCount(bits(folk, other, moment));
                }
            }
            return sum;
        }

        boolean isWholeFor(Hill hill, int set, int folk, int moment) {
            int bits = 0;
            for (int one = 0; one < hill.people; one++) {
                if ((set >> one & 1) != 0) {
                    bits |= bits(one, folk, moment);
                }
            }
            return bits == hill.allOf(folk);
        }

        /** The least set of the fewest that know a name WHOLE together, or NONE. */
        int fewestTogether(Hill hill, int folk, int moment) {
            int best = NONE;
            int size = FOLK_MOST + 1;
            for (int set = 0; set <= hill.everyone(); set++) {
                boolean isAside = (set >> folk & 1) == 0;
                if (isAside && Integer.bitCount(set) < size && isWholeFor(hill, set, folk, moment)) {
                    best = set;
                    size = Integer.bitCount(set);
                }
            }
            return best;
        }
    }

    /** Who comes under whom, by what is known WHOLE behind all hours. */
    static final class Bidding {
        private final int[] gathered = new int[FOLK_MOST];
        private final int[] reached = new int[FOLK_MOST];

        /** Those of a set whom a FOLK can bid, one by one, as bits. */
        int brought(Hill hill, Story story, int folk, int allowed) {
            for (int other = 0; other < hill.people; other++) {
                Rows.put(gathered, other, story.bits(folk, other, hill.hours));
            }
            int bidden = 0;
            // Each round brings one more, or the next ones bring none.
            for (int round = 0; round < FOLK_MOST; round++) {
                for (int next = 0; next < hill.people; next++) {
                    boolean isOpen = next != folk && (allowed & ~bidden & 1 << next) != 0;
                    if (isOpen && Rows.at(gathered, next) == hill.allOf(next)) {
                        bidden |= 1 << next;
                        gather(hill, story, next);
                    }
                }
            }
            return bidden;
        }

        private void gather(Hill hill, Story story, int from) {
            for (int other = 0; other < hill.people; other++) {
                Rows.put(gathered, other, Rows.at(gathered, other) | story.bits(from, other, hill.hours));
            }
        }

        /** The least set of the fewest biddings that end with another one, or NONE. */
        int fewest(Hill hill, Story story, int folk, int other) {
            int best = NONE;
            int size = FOLK_MOST + 1;
            for (int set = 0; set <= hill.everyone(); set++) {
                boolean fits = (set >> other & 1) != 0 && (set >> folk & 1) == 0;
                if (fits && Integer.bitCount(set) < size && brought(hill, story, folk, set) == set) {
                    best = set;
                    size = Integer.bitCount(set);
                }
            }
            return best;
        }

        /** FOLK from whom a round of known names leads back to themselves. */
        int rounds(Hill hill, Story story) {
            for (int folk = 0; folk < hill.people; folk++) {
                Rows.put(reached, folk, knownNames(hill, story, folk));
            }
            for (int step = 0; step < FOLK_MOST; step++) {
                for (int folk = 0; folk < hill.people; folk++) {
                    Rows.put(reached, folk, further(hill, Rows.at(reached, folk)));
                }
            }
            int set = 0;
            for (int folk = 0; folk < hill.people; folk++) {
                set |= Rows.at(reached, folk) & 1 << folk;
            }
            return set;
        }

        private static int knownNames(Hill hill, Story story, int folk) {
            int set = 0;
            for (int other = 0; other < hill.people; other++) {
                if (other != folk && story.isWhole(hill, folk, other, hill.hours)) {
                    set |= 1 << other;
                }
            }
            return set;
        }

        private int further(Hill hill, int from) {
            int set = from;
            for (int folk = 0; folk < hill.people; folk++) {
                if ((from >> folk & 1) != 0) {
                    set |= Rows.at(reached, folk);
                }
            }
            return set;
        }
    }

    /** The SLOTS and their rows. */
    static final class Slots {
        private final long[] numbers = new long[SLOTS * ROW_MOST];
        private final int[] widths = new int[SLOTS];
        private final int[] sizes = new int[SLOTS];

        Slots() {
            for (int slot = 0; slot < sizes.length; slot++) {
                sizes[slot] = NONE;
            }
        }

        boolean hasSlot(int slot) {
            return slot >= 0 && slot < SLOTS;
        }

        boolean isBare(int slot) {
            return sizeOf(slot) < 0;
        }

        /** How many numbers the row has, NONE without a row. */
        int sizeOf(int slot) {
            return hasSlot(slot) ? Rows.at(sizes, slot) : NONE;
        }

        int widthOf(int slot) {
            return Rows.at(widths, slot);
        }

        long numberAt(int slot, int i) {
            if (i < 0 || i >= sizeOf(slot)) {
                return 0;
            }
            int at = slot * ROW_MOST + i;
            return at >= 0 && at < numbers.length ? numbers[at] : 0;
        }

        void make(int slot, int width, int n) {
            Rows.put(sizes, slot, n);
            Rows.put(widths, slot, width);
            for (int i = 0; i < n; i++) {
                set(slot, i, 0);
            }
        }

        void set(int slot, int i, long v) {
            int at = slot * ROW_MOST + i;
            if (i >= 0 && i < sizeOf(slot) && at >= 0 && at < numbers.length) {
                numbers[at] = cut(v, widthOf(slot));
            }
        }

        private static long cut(long v, int width) {
            switch (width) {
                case 0:
                    return (byte) v;
                case 1:
                    return (short) v;
                case 2:
                    return (int) v;
                default:
                    return v;
            }
        }

        boolean hasRange(int slot, int i, int n) {
            return i >= 0 && n >= 0 && (long) i + n <= sizeOf(slot);
        }

        /** From the far end where they would overlap otherwise, so that all come as they were. */
        void shift(int slot, int i, int to, int k, int n) {
            for (int step = 0; step < n; step++) {
                int at = i < k ? n - 1 - step : step;
                set(to, k + at, numberAt(slot, i + at));
            }
        }

        boolean areWithin(int slot, int low, int high) {
            for (int i = 0; i < sizeOf(slot); i++) {
                if (numberAt(slot, i) < low || numberAt(slot, i) > high) {
                    return false;
                }
            }
            return true;
        }

        int countRows() {
            int count = 0;
            for (int slot = 0; slot < SLOTS; slot++) {
                if (!isBare(slot)) {
                    count++;
                }
            }
            return count;
        }
    }

    /** GIVE: syllables given out so that friends have all together and foes do not. */
    static final class Sharing {
        private static final int NEEDS = 1 << FOES_MOST;
        private static final int FAR = 1000;

        /** By sets: the foes, as bits, that have none of such a syllable; NONE: friends have none. */
        private final int[] spared = new int[SETS];
        /** By syllables left and foes that still have all: the fewest PIECES. */
        private final int[] fewest = new int[(NAME_MOST + 1) * NEEDS];
        final int[] shares = new int[NAME_MOST];

        /** The fewest PIECES, or NONE; shares has the first way of giving them. */
        int solve(Slots slots, int n, int friends, int foes) {
            for (int set = 1; set < SETS; set++) {
                Rows.put(spared, set, sparedBy(slots, set, friends, foes));
            }
            for (int need = 0; need < NEEDS; need++) {
                Rows.put(fewest, need, need == 0 ? 0 : FAR);
            }
            int all = (1 << Math.max(0, Math.min(FOES_MOST, slots.sizeOf(foes)))) - 1;
            for (int left = 1; left <= n; left++) {
                for (int need = 0; need <= all; need++) {
                    Rows.put(fewest, left * NEEDS + need, fewestFor(left, need));
                }
            }
            int best = Rows.at(fewest, n * NEEDS + all);
            if (best >= FAR) {
                return NONE;
            }
            chooseShares(n, all);
            return best;
        }

        private static int sparedBy(Slots slots, int set, int friends, int foes) {
            for (int i = 0; i < slots.sizeOf(friends); i++) {
                if ((slots.numberAt(friends, i) & set) == 0) {
                    return NONE;
                }
            }
            int bits = 0;
            for (int i = 0; i < slots.sizeOf(foes); i++) {
                if ((slots.numberAt(foes, i) & set) == 0) {
                    bits |= 1 << i;
                }
            }
            return bits;
        }

        private int fewestFor(int left, int need) {
            int best = FAR;
            for (int set = 1; set < SETS; set++) {
                best = Math.min(best, piecesWith(set, left, need));
            }
            return best;
        }

        /** The fewest PIECES if the first syllable of those left goes to this set. */
        private int piecesWith(int set, int left, int need) {
            int bits = Rows.at(spared, set);
            if (bits < 0) {
                return FAR;
            }
            return Integer.bitCount(set) + Rows.at(fewest, (left - 1) * NEEDS + (need & ~bits));
        }

        private void chooseShares(int n, int all) {
            int need = all;
            for (int i = 0; i < n; i++) {
                int left = n - i;
                int due = Rows.at(fewest, left * NEEDS + need);
                for (int set = 1; set < SETS; set++) {
                    if (piecesWith(set, left, need) == due) {
                        Rows.put(shares, i, set);
                        need &= ~Rows.at(spared, set);
                        break;
                    }
                }
            }
        }
    }

    /** Names that fit what was overheard or guessed. */
    static final class Listening {
        private final int[] ways = new int[NAME_MOST + 1];
        private final int[] waysOn = new int[NAME_MOST + 1];

        int folkWith(Hill hill, Slots slots, int slot) {
            int set = 0;
            for (int folk = 0; folk < hill.people; folk++) {
                if (stands(hill, folk, slots, slot)) {
                    set |= 1 << folk;
                }
            }
            return set;
        }

        private static boolean stands(Hill hill, int folk, Slots slots, int slot) {
            int size = slots.sizeOf(slot);
            for (int from = 0; from + size <= hill.lengthOf(folk); from++) {
                int fit = 0;
                while (fit < size && hill.syllableOf(folk, from + fit) == slots.numberAt(slot, fit)) {
                    fit++;
                }
                if (fit == size) {
                    return true;
                }
            }
            return false;
        }

        /** Counts rows of n syllables by how much of the fragment they end with; all of it stays. */
        int namesWith(Hill hill, Slots slots, int slot, int n) {
            int size = slots.sizeOf(slot);
            if (size > n) {
                return 0;
            }
            Rows.fill(ways, 0);
            Rows.put(ways, 0, 1);
            for (int i = 0; i < n; i++) {
                Rows.fill(waysOn, 0);
                for (int had = 0; had <= size; had++) {
                    for (int syllable = 0; syllable < hill.syllables; syllable++) {
                        int has = had == size ? size : endsWith(slots, slot, had, syllable);
                        Rows.put(waysOn, has, Rows.at(waysOn, has) + Rows.at(ways, had));
                    }
                }
                Rows.copy(waysOn, ways);
            }
            return Rows.at(ways, size);
        }

        /** How much of the fragment stands at the end of its first syllables and one more. */
        private static int endsWith(Slots slots, int slot, int had, int syllable) {
            for (int size = had + 1; size > 0; size--) {
                boolean fits = slots.numberAt(slot, size - 1) == syllable;
                for (int i = 0; i < size - 1; i++) {
                    fits &= slots.numberAt(slot, i) == slots.numberAt(slot, had - (size - 1) + i);
                }
                if (fits) {
                    return size;
                }
            }
            return 0;
        }

        boolean areClues(Hill hill, Slots slots, int slot) {
            int size = slots.sizeOf(slot);
            for (int i = 0; i < size; i++) {
                long most = (i & 1) == 0 ? NAME_MOST - 1 : hill.syllables - 1;
                if (slots.numberAt(slot, i) < 0 || slots.numberAt(slot, i) > most) {
                    return false;
                }
            }
            return (size & 1) == 0;
        }

        int folkFitting(Hill hill, Slots slots, int slot) {
            int set = hill.everyone();
            for (int i = 0; i + 1 < slots.sizeOf(slot); i += 2) {
                int at = (int) slots.numberAt(slot, i);
                for (int folk = 0; folk < hill.people; folk++) {
                    if (hill.syllableOf(folk, at) != slots.numberAt(slot, i + 1)) {
                        set &= ~(1 << folk);
                    }
                }
            }
            return set;
        }

        /** The syllable that leaves fewer of these FOLK than there are, or NONE. */
        int bestSyllable(Hill hill, int folk) {
            int best = NONE;
            int fewest = Integer.bitCount(folk);
            for (int at = 0; at < NAME_MOST; at++) {
                int left = leftAtWorst(hill, folk, at);
                if (left < fewest) {
                    fewest = left;
                    best = at;
                }
            }
            return best;
        }

        int leftAtWorst(Hill hill, int folk, int at) {
            int worst = 0;
            for (int is = NONE; is < hill.syllables; is++) {
                int left = 0;
                for (int one = 0; one < hill.people; one++) {
                    if ((folk >> one & 1) != 0 && hill.syllableOf(one, at) == is) {
                        left++;
                    }
                }
                worst = Math.max(worst, left);
            }
            return worst;
        }
    }

    /** FREE names, and the orders in which two names can be told. */
    static final class Naming {
        final int[] spelt = new int[NAME_MOST];
        private final int[] orders = new int[NAME_MOST + 1];

        /** How many FREE names of n syllables begin with the first ones spelt. */
        int freeFrom(Hill hill, int n, int first) {
            long count = Rows.power(hill.syllables, n - first);
            for (int folk = 0; folk < hill.people; folk++) {
                int size = Math.min(n, hill.lengthOf(folk));
                if (isSpelt(hill, folk, Math.min(size, first))) {
                    if (size <= first) {
                        return 0;
                    }
                    if (!isTaken(hill, folk, n)) {
                        count -= Rows.power(hill.syllables, n - size);
                    }
                }
            }
            return (int) count;
        }

        private boolean isSpelt(Hill hill, int folk, int n) {
            for (int i = 0; i < n; i++) {
                if (hill.syllableOf(folk, i) != Rows.at(spelt, i)) {
                    return false;
                }
            }
            return true;
        }

        /** Whether all that a name takes of n syllables is taken by another one already. */
        private static boolean isTaken(Hill hill, int folk, int n) {
            int size = Math.min(n, hill.lengthOf(folk));
            for (int other = 0; other < hill.people; other++) {
                int otherSize = Math.min(n, hill.lengthOf(other));
                boolean isAhead = otherSize < size || otherSize == size && other < folk;
                if (other != folk && isAhead && agree(hill, folk, other, otherSize)) {
                    return true;
                }
            }
            return false;
        }

        private static boolean agree(Hill hill, int folk, int other, int n) {
            for (int i = 0; i < n; i++) {
                if (hill.syllableOf(folk, i) != hill.syllableOf(other, i)) {
                    return false;
                }
            }
            return true;
        }

        /** If no name of six syllables is FREE, no longer one is: a name stands at its beginning. */
        int fewestFree(Hill hill) {
            for (int n = 1; n <= NAME_MOST; n++) {
                if (freeFrom(hill, n, 0) > 0) {
                    return n;
                }
            }
            return NONE;
        }

        void findLeastFree(Hill hill, int n) {
            for (int i = 0; i < n; i++) {
                for (int syllable = 0; syllable < hill.syllables; syllable++) {
                    Rows.put(spelt, i, syllable);
                    if (freeFrom(hill, n, i + 1) > 0) {
                        break;
                    }
                }
            }
        }

        /** Orders of telling two names so that neither is ever more than so many ahead. */
        int tellings(int size, int otherSize, int ahead) {
            Rows.fill(orders, 0);
            for (int i = 0; i <= size; i++) {
                for (int k = 0; k <= otherSize; k++) {
                    int before = Rows.at(orders, k);
                    int sum = i == 0 && k == 0 ? 1 : before + (k > 0 ? Rows.at(orders, k - 1) : 0);
                    Rows.put(orders, k, Math.abs(i - k) <= ahead ? sum : 0);
                }
            }
            return Rows.at(orders, otherSize);
        }
    }
}
