import java.nio.charset.StandardCharsets;
import java.util.ArrayList;
import java.util.Arrays;
import java.util.HashMap;
import java.util.HashSet;
import java.util.List;
import java.util.Map;
import java.util.Set;
import java.util.TreeSet;
import java.util.regex.Matcher;
import java.util.regex.Pattern;

/**
 * The document once more, written another way on purpose: texts go through a table of states, and each question
 * looks back through the LINES instead of keeping what they lead to.
 */
final class Oracle {
    private static final Pattern TOKEN = Pattern.compile("[a-z]+|[0-9]+|[^ ]", Pattern.DOTALL);
    /** From a state by a kind of TOKEN to a state; "end" where a TEXT may end. */
    private static final Map<String, String> TABLE = new HashMap<>();

    static {
        for (String row : List.of(
            "line person verb", "line open thing", "line settled thing",
            "verb asks other", "verb takes deed", "verb drops thing", "verb does thing", "verb denies thing",
            "verb says claim", "other person for", "for for deed", "deed thing dated", "dated by day", "dated ; line",
            "dated end ok", "day day over", "thing thing over", "over ; line", "over end ok", "claim thing said",
            "said as ground", "said ; line", "said end ok", "ground thing grounds", "grounds and ground",
            "grounds ; line", "grounds end ok")) {
            String[] part = row.split(" ");
            TABLE.put(part[0] + " " + part[1], part[2]);
        }
    }

    private final List<Integer> days = new ArrayList<>();
    private final List<Integer> meetingOf = new ArrayList<>();
    /** Each LINE of each RECORD as its words; the CLAIMS behind "as" sorted, once each. */
    private final List<List<String[]>> linesOf = new ArrayList<>();
    private byte[] tape = new byte[0];
    private int fault = -1;
    private int status = 0;

    int meeting(int day) {
        boolean falls = !days.isEmpty() && day < days.get(days.size() - 1);
        status = day < 0 || day > 999 || falls ? -1 : days.size() == 30 ? -5 : 0;
        if (status != 0) {
            return status;
        }
        days.add(day);
        return days.size() - 1;
    }

    int feed(byte[] piece) {
        if (tape.length + 20 > 300) {
            return -1;
        }
        byte[] longer = Arrays.copyOf(tape, tape.length + 20);
        System.arraycopy(piece, 0, longer, tape.length, 20);
        tape = longer;
        return tape.length;
    }

    int end(int n) {
        if (n < 0 || n > tape.length) {
            return -1;
        }
        tape = Arrays.copyOf(tape, n);
        return n;
    }

    int record(int meeting) {
        status = !isMeeting(meeting) ? -2 : linesOf.size() == 40 ? -5 : 0;
        if (status != 0) {
            return status;
        }
        String text = new String(tape, StandardCharsets.ISO_8859_1);
        tape = new byte[0];
        List<String[]> lines = new ArrayList<>();
        fault = read(text, lines);
        if (fault != -1) {
            status = -6;
            return status;
        }
        meetingOf.add(meeting);
        linesOf.add(lines);
        return linesOf.size() - 1;
    }

    private static int read(String text, List<String[]> lines) {
        Matcher tokens = TOKEN.matcher(text);
        String state = "line";
        List<String> line = new ArrayList<>();
        int begun = 0;
        int ands = 0;
        while (tokens.find()) {
            String token = tokens.group();
            String next = null;
            for (String kind : kinds(token)) {
                next = next == null ? TABLE.get(state + " " + kind) : next;
            }
            if (state.equals("line")) {
                begun++;
                ands = 0;
            }
            ands += token.equals("and") ? 1 : 0;
            if (next == null || begun > 20 || ands > 5) {
                return tokens.start();
            }
            if (token.equals(";")) {
                lines.add(plain(line));
                line.clear();
            } else {
                line.add(Character.isDigit(token.charAt(0)) ? token.replaceAll("^0+(?=.)", "") : token);
            }
            state = next;
        }
        if (TABLE.get(state + " end") == null) {
            return text.length();
        }
        lines.add(plain(line));
        return -1;
    }

    private static List<String> kinds(String token) {
        List<String> kinds = new ArrayList<>();
        if (token.matches("[a-l]")) {
            kinds.add("person");
        } else if (token.matches("[0-9]+")) {
            String digits = token.replaceAll("^0+(?=.)", "");
            if (digits.length() <= 3) {
                kinds.add("day");
            }
            if (digits.length() <= 2 && Integer.parseInt(digits) < 40) {
                kinds.add("thing");
            }
        } else if (!List.of("person", "thing", "day", "end").contains(token)) {
            kinds.add(token);
        }
        return kinds;
    }

    private static String[] plain(List<String> line) {
        List<String> words = new ArrayList<>(line);
        int as = words.indexOf("as");
        if (as != -1) {
            Set<String> grounds = new TreeSet<>(words.subList(as + 1, words.size()));
            grounds.remove("and");
            words = new ArrayList<>(words.subList(0, as + 1));
            words.addAll(grounds);
        }
        return words.toArray(new String[0]);
    }

    int fault() {
        return fault;
    }

    int status() {
        return status;
    }

    int of(int record, int what) {
        if (record < 0 || record >= linesOf.size()) {
            return -1;
        }
        return what == 0 ? linesOf.get(record).size() : what == 1 ? meetingOf.get(record)
            : what == 2 ? counts(record) ? 1 : 0 : -1;
    }

    private boolean counts(int record) {
        return meetingOf.indexOf(meetingOf.get(record)) == record;
    }

    private boolean isMeeting(int meeting) {
        return meeting >= 0 && meeting < days.size();
    }

    private static boolean isThing(int thing) {
        return thing >= 0 && thing < 40;
    }

    private static boolean isPerson(int person) {
        return person >= 0 && person < 12;
    }

    private List<String[]> asOf(int meeting) {
        List<String[]> lines = new ArrayList<>();
        for (int m = 0; m <= meeting; m++) {
            int record = meetingOf.indexOf(m);
            if (record != -1) {
                lines.addAll(linesOf.get(record));
            }
        }
        return lines;
    }

    private static String letter(int person) {
        return String.valueOf((char) ('a' + person));
    }

    /** The last LINE that begins with these words ("*" is any), from a place on; -1 without. */
    private static int last(List<String[]> lines, int from, String... words) {
        for (int i = lines.size() - 1; i >= from; i--) {
            boolean fits = lines.get(i).length >= words.length;
            for (int k = 0; fits && k < words.length; k++) {
                fits = words[k].equals("*") || words[k].equals(lines.get(i)[k]);
            }
            if (fits) {
                return i;
            }
        }
        return -1;
    }

    /** The LINE by which the HOLDER holds a DEED; -1 if it has none. */
    private static int taking(List<String[]> lines, int deed) {
        int taken = last(lines, 0, "*", "takes", "" + deed);
        boolean dropped = taken != -1 && last(lines, taken, lines.get(taken)[0], "drops", "" + deed) != -1;
        return dropped ? -1 : taken;
    }

    int holder(int deed, int meeting) {
        if (!isThing(deed) || !isMeeting(meeting)) {
            return -1;
        }
        List<String[]> lines = asOf(meeting);
        int taken = taking(lines, deed);
        return taken == -1 ? -1 : lines.get(taken)[0].charAt(0) - 'a';
    }

    int due(int deed, int meeting) {
        if (!isThing(deed) || !isMeeting(meeting)) {
            return -1;
        }
        List<String[]> lines = asOf(meeting);
        int taken = taking(lines, deed);
        return taken == -1 || lines.get(taken).length < 5 ? -1 : Integer.parseInt(lines.get(taken)[4]);
    }

    int done(int deed, int meeting) {
        if (!isThing(deed) || !isMeeting(meeting)) {
            return -1;
        }
        List<String[]> lines = asOf(meeting);
        int taken = taking(lines, deed);
        return taken != -1 && last(lines, taken, lines.get(taken)[0], "does", "" + deed) != -1 ? 1 : 0;
    }

    int asked(int person, int deed, int meeting) {
        if (!isPerson(person) || !isThing(deed) || !isMeeting(meeting)) {
            return -1;
        }
        List<String[]> lines = asOf(meeting);
        int asked = last(lines, 0, "*", "asks", letter(person), "for", "" + deed);
        return asked != -1 && last(lines, asked, letter(person), "takes", "" + deed) == -1
            && last(lines, asked, letter(person), "drops", "" + deed) == -1 ? 1 : 0;
    }

    private static int wordOf(List<String[]> lines, int person, int claim) {
        return Math.max(last(lines, 0, letter(person), "says", "" + claim),
            last(lines, 0, letter(person), "denies", "" + claim));
    }

    int word(int person, int claim, int meeting) {
        if (!isPerson(person) || !isThing(claim) || !isMeeting(meeting)) {
            return -1;
        }
        List<String[]> lines = asOf(meeting);
        int word = wordOf(lines, person, claim);
        return word == -1 ? -1 : lines.get(word)[1].equals("says") ? 1 : 0;
    }

    /** All rounds at once from none on, each from what the round ahead of it found. */
    private Set<String> standing(int meeting) {
        List<String[]> lines = asOf(meeting);
        Set<String> denied = new HashSet<>();
        List<String[]> sayings = new ArrayList<>();
        for (int claim = 0; claim < 40; claim++) {
            for (int person = 0; person < 12; person++) {
                int word = wordOf(lines, person, claim);
                if (word != -1 && lines.get(word)[1].equals("denies")) {
                    denied.add("" + claim);
                } else if (word != -1) {
                    sayings.add(lines.get(word));
                }
            }
        }
        Set<String> standing = new HashSet<>();
        while (true) {
            Set<String> next = new HashSet<>();
            for (String[] saying : sayings) {
                List<String> grounds = Arrays.asList(saying).subList(Math.min(4, saying.length), saying.length);
                if (!denied.contains(saying[2]) && standing.containsAll(grounds)) {
                    next.add(saying[2]);
                }
            }
            if (next.equals(standing)) {
                return standing;
            }
            standing = next;
        }
    }

    int stands(int claim, int meeting) {
        return !isThing(claim) || !isMeeting(meeting) ? -1 : standing(meeting).contains("" + claim) ? 1 : 0;
    }

    int state(int claim, int meeting) {
        if (!isThing(claim) || !isMeeting(meeting)) {
            return -1;
        }
        List<String[]> lines = asOf(meeting);
        int open = last(lines, 0, "open", "" + claim);
        int settled = last(lines, 0, "settled", "" + claim);
        return open == settled ? 0 : open > settled || stands(claim, meeting) == 0 ? 1 : 2;
    }

    int changes(int person, int claim, int meeting) {
        if (!isPerson(person) || !isThing(claim) || !isMeeting(meeting)) {
            return -1;
        }
        List<String> words = new ArrayList<>();
        for (String[] line : asOf(meeting)) {
            if (line[0].equals(letter(person)) && line[2].equals("" + claim)
                && (line[1].equals("says") || line[1].equals("denies"))) {
                words.add(line[1]);
            }
        }
        int changes = 0;
        for (int i = 1; i < words.size(); i++) {
            changes += words.get(i).equals(words.get(i - 1)) ? 0 : 1;
        }
        return changes;
    }

    private List<Integer> listOf(int person, int meeting) {
        List<Integer> owed = new ArrayList<>();
        Map<Integer, Integer> dues = new HashMap<>();
        for (int deed = 0; deed < 40; deed++) {
            if (holder(deed, meeting) == person && done(deed, meeting) == 0) {
                owed.add(deed);
                int due = due(deed, meeting);
                dues.put(deed, due == -1 ? Integer.MAX_VALUE : due);
            }
        }
        owed.sort((a, b) -> dues.get(a).equals(dues.get(b)) ? a - b : dues.get(a).compareTo(dues.get(b)));
        return owed;
    }

    int theirs(int person, int meeting, int i) {
        if (!isPerson(person) || !isMeeting(meeting)) {
            return -1;
        }
        List<Integer> owed = listOf(person, meeting);
        return i == -1 ? owed.size() : i < 0 || i >= owed.size() ? -1 : owed.get(i);
    }

    int late(int person, int meeting) {
        if (!isPerson(person) || !isMeeting(meeting)) {
            return -1;
        }
        int late = 0;
        for (int deed : listOf(person, meeting)) {
            int due = due(deed, meeting);
            late += due != -1 && due < days.get(meeting) ? 1 : 0;
        }
        return late;
    }

    int quarrels(int record) {
        if (record < 0 || record >= linesOf.size()) {
            return -1;
        }
        Map<String, Integer> balance = new HashMap<>();
        for (String[] line : linesOf.get(record)) {
            balance.merge(String.join(" ", line), 1, Integer::sum);
        }
        for (String[] line : linesOf.get(meetingOf.indexOf(meetingOf.get(record)))) {
            balance.merge(String.join(" ", line), -1, Integer::sum);
        }
        int sum = 0;
        for (int difference : balance.values()) {
            sum += Math.abs(difference);
        }
        return sum;
    }

    int turned(int meeting, int from) {
        if (!isMeeting(meeting)) {
            return -1;
        }
        Set<String> now = standing(meeting);
        Set<String> before = meeting == 0 ? new HashSet<>() : standing(meeting - 1);
        for (int claim = 0; claim < 40; claim++) {
            if (claim >= from && now.contains("" + claim) != before.contains("" + claim)) {
                return claim;
            }
        }
        return -1;
    }

    int count(int what) {
        int lines = 0;
        for (int record = 0; record < linesOf.size(); record++) {
            lines += counts(record) ? linesOf.get(record).size() : 0;
        }
        return what == 0 ? days.size() : what == 1 ? linesOf.size() : what == 2 ? lines : what == 3 ? tape.length : -1;
    }
}
