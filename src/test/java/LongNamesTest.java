import java.util.ArrayList;
import java.util.Arrays;
import java.util.List;
import java.util.Random;

/** GIVE, FREE and spellings of names up to six syllables, which PlainModel would try too long: all ways are tried. */
public final class LongNamesTest {
    private static final int GIVINGS = 250;
    private static final int HILLS = 30;

    private final Random random = new Random(6);
    private final HalvedNames names = new HalvedNames();
    private int asked;
    private int wrong;

    public static void main(String[] args) {
        LongNamesTest test = new LongNamesTest();
        for (int i = 0; i < GIVINGS; i++) {
            test.giving();
        }
        for (int i = 0; i < HILLS; i++) {
            test.names();
        }
        System.out.println("LongNamesTest: " + test.asked + " answers asked, " + test.wrong + " wrong");
        if (test.wrong > 0) {
            System.exit(1);
        }
    }

    private void due(String call, int got, int want) {
        asked++;
        if (got != want) {
            wrong++;
            System.out.println(call + " answered " + got + ", due is " + want);
        }
    }

    // ---- GIVE

    private int[] friends;
    private int[] foes;
    private int[] shares;
    private int[] firstShares;
    private int fewest;

    /** With friends among FOLK 0 .. 3 whoever else has a syllable only costs a PIECE, so fifteen sets are tried. */
    private void giving() {
        int n = 3 + random.nextInt(4);
        friends = new int[1 + random.nextInt(4)];
        foes = new int[random.nextInt(9)];
        for (int i = 0; i < friends.length; i++) {
            friends[i] = 1 + random.nextInt(15) | random.nextInt(16);
        }
        for (int i = 0; i < foes.length; i++) {
            foes[i] = Math.max(1, random.nextInt(16) & random.nextInt(16));
        }
        setRow(0, friends);
        setRow(1, foes);
        shares = new int[n];
        firstShares = null;
        fewest = 1000;
        tryShares(0, 0);
        String rows = "(" + n + ", 0, 1) of " + Arrays.toString(friends) + " and " + Arrays.toString(foes);
        due("give" + rows, names.give(n, 0, 1), firstShares == null ? -1 : fewest);
        for (int i = 0; i < n; i++) {
            due("given " + i + rows, names.given(n, 0, 1, i), firstShares == null ? -1 : firstShares[i]);
        }
    }

    private void setRow(int slot, int[] numbers) {
        names.row(slot, random.nextInt(4), numbers.length);
        for (int i = 0; i < numbers.length; i++) {
            names.write(slot, i, numbers[i]);
        }
    }

    /** From the least set on, so that the first of the fewest is kept. */
    private void tryShares(int i, int pieces) {
        if (pieces + shares.length - i >= fewest) {
            return;
        }
        if (i == shares.length) {
            if (isKept()) {
                fewest = pieces;
                firstShares = shares.clone();
            }
            return;
        }
        for (int set = 1; set < 16; set++) {
            if (isHadByFriends(set)) {
                shares[i] = set;
                tryShares(i + 1, pieces + Integer.bitCount(set));
            }
        }
    }

    private boolean isHadByFriends(int set) {
        for (int friend : friends) {
            if ((friend & set) == 0) {
                return false;
            }
        }
        return true;
    }

    /** Whether each set of foes lacks a syllable. */
    private boolean isKept() {
        for (int foe : foes) {
            boolean lacks = false;
            for (int set : shares) {
                lacks |= (set & foe) == 0;
            }
            if (!lacks) {
                return false;
            }
        }
        return true;
    }

    // ---- names

    private void names() {
        int syllables = 2 + random.nextInt(8);
        List<int[]> told = new ArrayList<>();
        StringBuilder text = new StringBuilder("hill syllables " + syllables + " places 1 hours 1;");
        for (int folk = random.nextInt(7); folk > 0; folk--) {
            int[] name = someName(1 + random.nextInt(6), syllables);
            told.add(name);
            text.append("name");
            Arrays.stream(name).forEach(s -> text.append(' ').append(s));
            text.append(';');
        }
        Feeder.hill(names, text.toString());
        int[] part = someName(1 + random.nextInt(4), syllables);
        setRow(2, part);
        int n = 4 + random.nextInt(3);
        int free = 0;
        int spelt = 0;
        int[] name = new int[n];
        do {
            free += told.stream().noneMatch(other -> begins(other, name)) ? 1 : 0;
            spelt += stands(part, name) ? 1 : 0;
        } while (isStepped(name, syllables));
        due("free(" + n + ") of " + text, names.free(n), free);
        due("spellings(2, " + n + ") of " + Arrays.toString(part) + ", " + text, names.spellings(2, n), spelt);
    }

    private int[] someName(int n, int syllables) {
        int most = random.nextBoolean() ? syllables : 2;
        return random.ints(n, 0, most).toArray();
    }

    private static boolean begins(int[] other, int[] name) {
        int size = Math.min(other.length, name.length);
        return Arrays.equals(other, 0, size, name, 0, size);
    }

    private static boolean stands(int[] part, int[] name) {
        for (int from = 0; from + part.length <= name.length; from++) {
            if (Arrays.equals(part, 0, part.length, name, from, from + part.length)) {
                return true;
            }
        }
        return false;
    }

    /** The next name of as many syllables; false behind the last. */
    private static boolean isStepped(int[] name, int syllables) {
        for (int i = name.length - 1; i >= 0; i--) {
            name[i]++;
            if (name[i] < syllables) {
                return true;
            }
            name[i] = 0;
        }
        return false;
    }
}
