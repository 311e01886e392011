import java.nio.charset.StandardCharsets;

/** What the tests share: feeding texts, comparing answers, ending with the due exit code. */
final class Talk {
    private static int wrong = 0;
    private static int asked = 0;
    private static String sentence = "";

    private Talk() {
    }

    /** The document's words that the answers from here on are held to. */
    static void sentence(String words) {
        sentence = words;
    }

    static void due(String call, int got, int want) {
        asked++;
        if (got != want) {
            wrong++;
            String promise = sentence.isEmpty() ? "" : " by: " + sentence;
            System.out.println(call + " answered " + got + ", due is " + want + promise);
        }
    }

    static int wrongs() {
        return wrong;
    }

    static void close(String name) {
        System.out.println(name + ": " + asked + " answers, " + wrong + " not as due");
        if (wrong != 0) {
            System.exit(1);
        }
    }

    /** The five numbers that feed a piece of 20 bytes. */
    static int[] numbers(byte[] piece) {
        int[] numbers = new int[5];
        for (int i = 0; i < 20; i++) {
            numbers[i / 4] = numbers[i / 4] << 8 | piece[i] & 255;
        }
        return numbers;
    }

    /** Lays a text of at most 300 characters 0 .. 255 on an empty TAPE. */
    static void lay(AgreedTalks talks, String text) {
        byte[] bytes = text.getBytes(StandardCharsets.ISO_8859_1);
        for (int from = 0; from < bytes.length; from += 20) {
            byte[] piece = new byte[20];
            System.arraycopy(bytes, from, piece, 0, Math.min(20, bytes.length - from));
            int[] n = numbers(piece);
            talks.feed(n[0], n[1], n[2], n[3], n[4]);
        }
        talks.end(bytes.length);
    }

    static int record(AgreedTalks talks, int meeting, String text) {
        lay(talks, text);
        return talks.record(meeting);
    }

    /** An object with a MEETING for each text, on DAYS 10, 20, .. and the texts as their RECORDS. */
    static AgreedTalks talks(String... texts) {
        AgreedTalks talks = new AgreedTalks();
        for (int i = 0; i < texts.length; i++) {
            due("meeting(" + 10 * (i + 1) + ")", talks.meeting(10 * (i + 1)), i);
            due("record of " + texts[i], record(talks, i, texts[i]), i);
        }
        return talks;
    }

    /** A text of that many LINES, all alike. */
    static String lines(int many, String line) {
        StringBuilder text = new StringBuilder();
        for (int i = 0; i < many; i++) {
            text.append(i == 0 ? "" : ";").append(line);
        }
        return text.toString();
    }

    /** A text that can be, with so many LINES. */
    static void sound(String text, int lines) {
        AgreedTalks x = new AgreedTalks();
        x.meeting(0);
        due("record of '" + text + "'", record(x, 0, text), 0);
        due("fault of '" + text + "'", x.fault(), -1);
        due("lines of '" + text + "'", x.of(0, 0), lines);
    }

    /** A text that can't be, with its FAULT at that place. */
    static void wrong(String text, int place) {
        AgreedTalks x = new AgreedTalks();
        x.meeting(0);
        due("record of '" + text + "'", record(x, 0, text), -6);
        due("fault of '" + text + "'", x.fault(), place);
        due("status of '" + text + "'", x.status(), -6);
        due("records of '" + text + "'", x.count(1), 0);
    }

    /** THEIRS as of a MEETING are these, in this order. */
    static void theirsAre(AgreedTalks x, int person, int meeting, int... want) {
        due("theirs(" + person + ", " + meeting + ", -1)", x.theirs(person, meeting, -1), want.length);
        for (int i = 0; i < want.length; i++) {
            due("theirs(" + person + ", " + meeting + ", " + i + ")", x.theirs(person, meeting, i), want[i]);
        }
        due("theirs past the last", x.theirs(person, meeting, want.length), -1);
        due("theirs(.., -2)", x.theirs(person, meeting, -2), -1);
        due("theirs(.., MIN)", x.theirs(person, meeting, Integer.MIN_VALUE), -1);
        due("theirs(.., MAX)", x.theirs(person, meeting, Integer.MAX_VALUE), -1);
    }

    /** QUARRELS of two texts of one MEETING, whichever of both counts. */
    static void quarrelsAre(String first, String second, int want) {
        AgreedTalks x = talks(first);
        record(x, 0, second);
        due("quarrels of '" + second + "' with '" + first + "'", x.quarrels(1), want);
        due("quarrels of the one that counts", x.quarrels(0), 0);
        AgreedTalks y = talks(second);
        record(y, 0, first);
        due("quarrels of '" + first + "' with '" + second + "'", y.quarrels(1), want);
    }
}
