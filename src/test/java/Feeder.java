import java.nio.charset.StandardCharsets;

/** Puts texts on the TAPE of a HalvedNames: twenty bytes a call, then cut to their length. */
final class Feeder {
    private Feeder() {
    }

    /** The numbers of the feeds that put a text on the TAPE, blanks behind it. */
    static int[] numbers(String text) {
        byte[] bytes = text.getBytes(StandardCharsets.ISO_8859_1);
        int[] numbers = new int[(bytes.length + 19) / 20 * 5];
        for (int i = 0; i < numbers.length * 4; i++) {
            int b = i < bytes.length ? bytes[i] & 255 : ' ';
            numbers[i / 4] = numbers[i / 4] << 8 | b;
        }
        return numbers;
    }

    static void put(HalvedNames names, String text) {
        int[] v = numbers(text);
        int had = names.count(6);
        for (int i = 0; i < v.length; i += 5) {
            names.feed(v[i], v[i + 1], v[i + 2], v[i + 3], v[i + 4]);
        }
        names.end(had + text.length());
    }

    /** What hill() answers for a text on an empty TAPE. */
    static int hill(HalvedNames names, String text) {
        names.end(0);
        put(names, text);
        return names.hill();
    }

    static HalvedNames made(String text) {
        HalvedNames names = new HalvedNames();
        if (hill(names, text) < 0) {
            throw new IllegalArgumentException("no hill: fault " + names.fault(0) + " at "
                + names.fault(1) + " of " + text);
        }
        return names;
    }
}
