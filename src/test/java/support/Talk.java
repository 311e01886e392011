import java.nio.charset.StandardCharsets;

/** What the tests share: feeding texts, comparing answers, ending with the due exit code. */
final class Talk {
    private static int wrong = 0;
    private static int asked = 0;

    private Talk() {
    }

    static void due(String call, int got, int want) {
        asked++;
        if (got != want) {
            wrong++;
            System.out.println(call + " answered " + got + ", due is " + want);
        }
    }

    static int wrongs() {
        return wrong;
    }

    static void close(String name) {
        System.out.println(name + ": " + asked + " answers, " + wrong + " not as due");
        if (wrong != 0) {
            System.exit(1);
        }
    }

    /** The five numbers that feed a piece of 20 bytes. */
    static int[] numbers(byte[] piece) {
        int[] numbers = new int[5];
        for (int i = 0; i < 20; i++) {
            numbers[i / 4] = numbers[i / 4] << 8 | piece[i] & 255;
        }
        return numbers;
    }

    /** Lays a text of at most 300 characters 0 .. 255 on an empty TAPE. */
    static void lay(AgreedTalks talks, String text) {
        byte[] bytes = text.getBytes(StandardCharsets.ISO_8859_1);
        for (int from = 0; from < bytes.length; from += 20) {
            byte[] piece = new byte[20];
            System.arraycopy(bytes, from, piece, 0, Math.min(20, bytes.length - from));
            int[] n = numbers(piece);
            talks.feed(n[0], n[1], n[2], n[3], n[4]);
        }
        talks.end(bytes.length);
    }

    static int record(AgreedTalks talks, int meeting, String text) {
        lay(talks, text);
        return talks.record(meeting);
    }

    /** An object with a MEETING for each text, on DAYS 10, 20, .. and the texts as their RECORDS. */
    static AgreedTalks talks(String... texts) {
        AgreedTalks talks = new AgreedTalks();
        for (int i = 0; i < texts.length; i++) {
            due("meeting(" + 10 * (i + 1) + ")", talks.meeting(10 * (i + 1)), i);
            due("record of " + texts[i], record(talks, i, texts[i]), i);
        }
        return talks;
    }
}
