import java.util.ArrayList;
import java.util.Arrays;

/** What was agreed in meetings, read from records of talks. ../shared/DOC.md has the promises. */
public final class AgreedTalks {
    public static final int NONE = -1;

    private static final int PEOPLE = 12;
    /** There are as many DEEDS as CLAIMS: one bound serves both. */
    private static final int THINGS = 40;
    private static final int DAYS = 1000;
    private static final int MOST_MEETINGS = 30;
    private static final int MOST_RECORDS = 40;
    private static final int MOST_LINES = 20;
    private static final int MOST_GROUNDS = 6;
    private static final int MOST_BYTES = 300;
    private static final int FED_BYTES = 20;

    private static final int NO_SUCH_NUMBER = -1;
    private static final int NO_SUCH_MEETING = -2;
    private static final int NO_ROOM = -5;
    private static final int NO_TEXT = -6;

    private final int[] days = new int[MOST_MEETINGS];
    /** The number of the RECORD that counts of each MEETING; NONE as long as it has no RECORD. */
    private final int[] counting = new int[MOST_MEETINGS];
    private final ArrayList<Minutes> records = new ArrayList<>();
    private final Tape tape = new Tape();
    private final Reader reader = new Reader(tape);
    private final Deeds deeds = new Deeds();
    private final Claims claims = new Claims();
    private int meetings = 0;
    /** The MEETING that deeds and claims are as of; NONE if they must be made anew. */
    private int shown = NONE;
    private int faultPlace = NONE;
    private int refusal = 0;

    public AgreedTalks() {
        Arrays.fill(counting, NONE);
    }

    public int meeting(int day) {
        if (day < 0 || day >= DAYS || day < lastDay()) {
            return refuse(NO_SUCH_NUMBER);
        }
        if (meetings >= MOST_MEETINGS) {
            return refuse(NO_ROOM);
        }
        days[meetings] = day;
        meetings++;
        refusal = 0;
        return meetings - 1;
    }

    public int feed(int a, int b, int c, int d, int e) {
        if (tape.length + FED_BYTES > MOST_BYTES) {
            return NONE;
        }
        tape.append(a);
        tape.append(b);
        tape.append(c);
        tape.append(d);
        tape.append(e);
        return tape.length;
    }

    public int end(int n) {
        if (n < 0 || n > tape.length) {
            return NONE;
        }
        tape.length = n;
        return n;
    }

    public int record(int meeting) {
        if (!isMeeting(meeting)) {
            return refuse(NO_SUCH_MEETING);
        }
        if (records.size() >= MOST_RECORDS) {
            return refuse(NO_ROOM);
        }
        ArrayList<Line> lines = new ArrayList<>();
        boolean isSound = reader.readLines(lines);
        faultPlace = isSound ? NONE : reader.start;
        tape.length = 0;
        if (!isSound) {
            return refuse(NO_TEXT);
        }
        refusal = 0;
        return keep(meeting, lines);
    }

    public int fault() {
        return faultPlace;
    }

    public int of(int record, int what) {
        if (!isRecord(record)) {
            return NONE;
        }
        Minutes minutes = records.get(record);
        switch (what) {
            case 0:
                return minutes.lines.size();
            case 1:
                return minutes.meeting;
            case 2:
                return counting[minutes.meeting] == record ? 1 : 0;
            default:
                return NONE;
        }
    }

    public int holder(int deed, int meeting) {
        if (!isThing(deed) || !isMeeting(meeting)) {
            return NONE;
        }
        showAsOf(meeting);
        return deeds.holders[deed];
    }

    public int due(int deed, int meeting) {
        if (!isThing(deed) || !isMeeting(meeting)) {
            return NONE;
        }
        showAsOf(meeting);
        return deeds.dueDays[deed];
    }

    public int done(int deed, int meeting) {
        if (!isThing(deed) || !isMeeting(meeting)) {
            return NONE;
        }
        showAsOf(meeting);
        return deeds.finished[deed];
    }

    public int asked(int person, int deed, int meeting) {
        if (!isPerson(person) || !isThing(deed) || !isMeeting(meeting)) {
            return NONE;
        }
        showAsOf(meeting);
        return deeds.requests[cell(person, deed)];
    }

    public int word(int person, int claim, int meeting) {
        if (!isPerson(person) || !isThing(claim) || !isMeeting(meeting)) {
            return NONE;
        }
        showAsOf(meeting);
        return claims.words[cell(person, claim)];
    }

    public int stands(int claim, int meeting) {
        if (!isThing(claim) || !isMeeting(meeting)) {
            return NONE;
        }
        showAsOf(meeting);
        return claims.isStanding(claim) ? 1 : 0;
    }

    public int state(int claim, int meeting) {
        if (!isThing(claim) || !isMeeting(meeting)) {
            return NONE;
        }
        showAsOf(meeting);
        if (claims.marks[claim] == Claims.SETTLED && !claims.isStanding(claim)) {
            return Claims.OPEN;
        }
        return claims.marks[claim];
    }

    public int changes(int person, int claim, int meeting) {
        if (!isPerson(person) || !isThing(claim) || !isMeeting(meeting)) {
            return NONE;
        }
        showAsOf(meeting);
        return claims.turns[cell(person, claim)];
    }

    public int theirs(int person, int meeting, int i) {
        if (!isPerson(person) || !isMeeting(meeting)) {
            return NONE;
        }
        showAsOf(meeting);
        int many = 0;
        for (int deed = 0; deed < THINGS; deed++) {
            if (deeds.isOwed(person, deed)) {
                many++;
                if (deeds.placeOf(person, deed) == i) {
                    return deed;
                }
            }
        }
        return i == -1 ? many : NONE;
    }

    public int late(int person, int meeting) {
        if (!isPerson(person) || !isMeeting(meeting)) {
            return NONE;
        }
        showAsOf(meeting);
        int many = 0;
        for (int deed = 0; deed < THINGS; deed++) {
            if (deeds.isOwed(person, deed) && deeds.lastDayOf(deed) < days[meeting]) {
                many++;
            }
        }
        return many;
    }

    public int quarrels(int record) {
        if (!isRecord(record)) {
            return NONE;
        }
        Minutes minutes = records.get(record);
        int first = counting[minutes.meeting];
        if (first == record || !isRecord(first)) {
            return 0;
        }
        return minutes.unlike(records.get(first));
    }

    public int turned(int meeting, int from) {
        if (!isMeeting(meeting)) {
            return NONE;
        }
        long before = meeting == 0 ? 0L : standingAsOf(meeting - 1);
        long differing = before ^ standingAsOf(meeting);
        for (int claim = Math.max(from, 0); claim < THINGS; claim++) {
            if ((differing & bit(claim)) != 0L) {
                return claim;
            }
        }
        return NONE;
    }

    public int count(int what) {
        switch (what) {
            case 0:
                return meetings;
            case 1:
                return records.size();
            case 2:
                return countingLines();
            case 3:
                return tape.length;
            default:
                return NONE;
        }
    }

    public int status() {
        return refusal;
    }

    private int refuse(int reason) {
        refusal = reason;
        return reason;
    }

    private int lastDay() {
        return meetings == 0 ? 0 : days[meetings - 1];
    }

    private boolean isMeeting(int meeting) {
        return meeting >= 0 && meeting < meetings;
    }

    private boolean isRecord(int record) {
        return record >= 0 && record < records.size();
    }

    private static boolean isPerson(int person) {
        return person >= 0 && person < PEOPLE;
    }

    private static boolean isThing(int thing) {
        return thing >= 0 && thing < THINGS;
    }

    private static int cell(int person, int thing) {
        return person * THINGS + thing;
    }

    private static long bit(int thing) {
        return 1L << thing;
    }

    private int keep(int meeting, ArrayList<Line> lines) {
        int number = records.size();
        records.add(new Minutes(meeting, lines));
        if (counting[meeting] == NONE) {
            counting[meeting] = number;
            // A RECORD of an early MEETING may come late, and changes all MEETINGS behind it.
            shown = NONE;
        }
        return number;
    }

    private int countingLines() {
        int many = 0;
        for (int meeting = 0; meeting < meetings; meeting++) {
            if (isRecord(counting[meeting])) {
                many += records.get(counting[meeting]).lines.size();
            }
        }
        return many;
    }

    private long standingAsOf(int meeting) {
        showAsOf(meeting);
        return claims.standing;
    }

    private void showAsOf(int meeting) {
        if (shown == meeting) {
            return;
        }
        deeds.clear();
        claims.clear();
        for (int m = 0; m <= meeting; m++) {
            if (isRecord(counting[m])) {
                follow(records.get(counting[m]).lines);
            }
        }
        claims.findStanding();
        shown = meeting;
    }

    private void follow(ArrayList<Line> lines) {
        for (int i = 0; i < lines.size(); i++) {
            deeds.hear(lines.get(i));
            claims.hear(lines.get(i));
        }
    }

    /** One LINE as it was read; what its kind does not have is NONE, or no grounds. */
    private static final class Line {
        static final int ASKS = 0;
        static final int TAKES = 1;
        static final int DROPS = 2;
        static final int DOES = 3;
        static final int SAYS = 4;
        static final int DENIES = 5;
        static final int OPENS = 6;
        static final int SETTLES = 7;

        final int kind;
        final int person;
        /** Who is asked. */
        final int other;
        /** The DEED or the CLAIM, as the kind has it. */
        final int thing;
        final int day;
        /** The CLAIMS behind "as", a bit each: a set, so that neither order nor repeats count. */
        final long grounds;

        Line(int kind, int person, int other, int thing, int day, long grounds) {
            this.kind = kind;
            this.person = person;
            this.other = other;
            this.thing = thing;
            this.day = day;
            this.grounds = grounds;
        }

        boolean isLike(Line that) {
            return kind == that.kind && person == that.person && other == that.other
                && thing == that.thing && day == that.day && grounds == that.grounds;
        }
    }

    /** A RECORD that was read. */
    private static final class Minutes {
        final int meeting;
        final ArrayList<Line> lines;

        Minutes(int meeting, ArrayList<Line> lines) {
            this.meeting = meeting;
            this.lines = lines;
        }

        /** How many LINES of both find no partner in the other one. */
        int unlike(Minutes that) {
            int pairs = 0;
            int paired = 0;
            for (int i = 0; i < lines.size(); i++) {
                int partner = that.firstLike(lines.get(i), paired);
                if (partner != NONE) {
                    pairs++;
                    paired |= 1 << partner;
                }
            }
            return lines.size() + that.lines.size() - 2 * pairs;
        }

        /** The bits of paired leave out LINES; an int has room for them, as they are 20 at most. */
        private int firstLike(Line line, int paired) {
            for (int i = 0; i < lines.size(); i++) {
                if ((paired & (1 << i)) == 0 && lines.get(i).isLike(line)) {
                    return i;
                }
            }
            return NONE;
        }
    }

    /** The bytes fed since the latest RECORD was read. */
    private static final class Tape {
        final int[] bytes = new int[MOST_BYTES];
        int length = 0;

        void append(int number) {
            for (int shift = 24; shift >= 0 && length < MOST_BYTES; shift -= 8) {
                bytes[length] = (number >>> shift) & 255;
                length++;
            }
        }
    }

    /** Reads LINES from the TAPE. It halts at the first TOKEN that can't go on. */
    private static final class Reader {
        private static final int BLANK = 32;
        private static final int LETTER = 0;
        private static final int DIGIT = 1;
        private static final int SINGLE = 2;
        private static final long BAD_GROUNDS = -1L;

        private final Tape tape;
        /** The place of the TOKEN to be read; the TAPE's length, if there is none any more. */
        int start = 0;
        private int stop = 0;

        Reader(Tape tape) {
            this.tape = tape;
        }

        boolean readLines(ArrayList<Line> lines) {
            stop = 0;
            step();
            for (int i = 0; i < MOST_LINES; i++) {
                Line line = readLine();
                if (line == null) {
                    return false;
                }
                lines.add(line);
                if (start >= tape.length) {
                    return true;
                }
                if (!takeWord(";")) {
                    return false;
                }
            }
            return false;
        }

        /** A LINE; null if a TOKEN can't go on. */
        private Line readLine() {
            if (takeWord("open")) {
                return readThing(Line.OPENS, NONE);
            }
            if (takeWord("settled")) {
                return readThing(Line.SETTLES, NONE);
            }
            int person = takePerson();
            if (person == NONE) {
                return null;
            }
            if (takeWord("asks")) {
                int other = takePerson();
                return other != NONE && takeWord("for") ? readDated(Line.ASKS, person, other) : null;
            }
            if (takeWord("takes")) {
                return readDated(Line.TAKES, person, NONE);
            }
            if (takeWord("drops")) {
                return readThing(Line.DROPS, person);
            }
            if (takeWord("does")) {
                return readThing(Line.DOES, person);
            }
            if (takeWord("says")) {
                return readSaying(person);
            }
            return takeWord("denies") ? readThing(Line.DENIES, person) : null;
        }

        private Line readThing(int kind, int person) {
            int thing = takeNumber(THINGS);
            return thing == NONE ? null : new Line(kind, person, NONE, thing, NONE, 0L);
        }

        private Line readDated(int kind, int person, int other) {
            int deed = takeNumber(THINGS);
            if (deed == NONE) {
                return null;
            }
            int day = NONE;
            if (takeWord("by")) {
                day = takeNumber(DAYS);
                if (day == NONE) {
                    return null;
                }
            }
            return new Line(kind, person, other, deed, day, 0L);
        }

        private Line readSaying(int person) {
            int claim = takeNumber(THINGS);
            if (claim == NONE) {
                return null;
            }
            long grounds = takeWord("as") ? takeGrounds() : 0L;
            if (grounds == BAD_GROUNDS) {
                return null;
            }
            return new Line(Line.SAYS, person, NONE, claim, NONE, grounds);
        }

        /** An "and" behind the last CLAIM that there may be is left, and then can't go on. */
        private long takeGrounds() {
            long grounds = 0L;
            for (int i = 0; i < MOST_GROUNDS; i++) {
                if (i > 0 && !takeWord("and")) {
                    return grounds;
                }
                int claim = takeNumber(THINGS);
                if (claim == NONE) {
                    return BAD_GROUNDS;
                }
                grounds |= bit(claim);
            }
            return grounds;
        }

        private boolean takeWord(String text) {
            if (stop - start != text.length()) {
                return false;
            }
            for (int i = 0; i < text.length(); i++) {
                if (tape.bytes[start + i] != text.charAt(i)) {
                    return false;
                }
            }
            step();
            return true;
        }

        private int takePerson() {
            if (stop - start != 1) {
                return NONE;
            }
            int person = tape.bytes[start] - 'a';
            if (!isPerson(person)) {
                return NONE;
            }
            step();
            return person;
        }

        /** The number here, if it is below the bound; leading zeros change nothing. */
        private int takeNumber(int bound) {
            if (start >= tape.length || kindOf(tape.bytes[start]) != DIGIT) {
                return NONE;
            }
            int number = 0;
            for (int i = start; i < stop; i++) {
                // Kept from growing, as a row of digits may be longer than an int can hold.
                number = Math.min(number * 10 + tape.bytes[i] - '0', DAYS);
            }
            if (number >= bound) {
                return NONE;
            }
            step();
            return number;
        }

        private void step() {
            start = stop;
            while (start < tape.length && tape.bytes[start] == BLANK) {
                start++;
            }
            stop = start;
            if (start >= tape.length) {
                return;
            }
            int kind = kindOf(tape.bytes[start]);
            stop++;
            while (kind != SINGLE && stop < tape.length && kindOf(tape.bytes[stop]) == kind) {
                stop++;
            }
        }

        private static int kindOf(int value) {
            if (value >= 'a' && value <= 'z') {
                return LETTER;
            }
            return value >= '0' && value <= '9' ? DIGIT : SINGLE;
        }
    }

    /** What is whose, and who is ASKED for what, behind the LINES heard so far. */
    private static final class Deeds {
        final int[] holders = new int[THINGS];
        final int[] dueDays = new int[THINGS];
        final int[] finished = new int[THINGS];
        final int[] requests = new int[PEOPLE * THINGS];

        void clear() {
            Arrays.fill(holders, NONE);
            Arrays.fill(dueDays, NONE);
            Arrays.fill(finished, 0);
            Arrays.fill(requests, 0);
        }

        void hear(Line line) {
            switch (line.kind) {
                case Line.ASKS:
                    requests[cell(line.other, line.thing)] = 1;
                    break;
                case Line.TAKES:
                    requests[cell(line.person, line.thing)] = 0;
                    give(line.thing, line.person, line.day);
                    break;
                case Line.DROPS:
                    requests[cell(line.person, line.thing)] = 0;
                    if (holders[line.thing] == line.person) {
                        give(line.thing, NONE, NONE);
                    }
                    break;
                case Line.DOES:
                    if (holders[line.thing] == line.person) {
                        finished[line.thing] = 1;
                    }
                    break;
                default:
                    break;
            }
        }

        private void give(int deed, int person, int day) {
            holders[deed] = person;
            dueDays[deed] = day;
            finished[deed] = 0;
        }

        boolean isOwed(int person, int deed) {
            return holders[deed] == person && finished[deed] == 0;
        }

        /** What is DUE by no DAY comes behind all DAYS, and is never LATE. */
        int lastDayOf(int deed) {
            return dueDays[deed] == NONE ? DAYS : dueDays[deed];
        }

        /** How many of THEIRS come ahead of this one. */
        int placeOf(int person, int deed) {
            int ahead = 0;
            for (int d = 0; d < THINGS; d++) {
                if (isOwed(person, d) && isAhead(d, deed)) {
                    ahead++;
                }
            }
            return ahead;
        }

        private boolean isAhead(int deed, int that) {
            int day = lastDayOf(deed);
            int thatDay = lastDayOf(that);
            return day < thatDay || (day == thatDay && deed < that);
        }
    }

    /** What is said, denied, left open and settled behind the LINES heard so far. */
    private static final class Claims {
        static final int DENIED = 0;
        static final int SAID = 1;
        static final int OPEN = 1;
        static final int SETTLED = 2;

        final int[] words = new int[PEOPLE * THINGS];
        private final long[] grounds = new long[PEOPLE * THINGS];
        final int[] turns = new int[PEOPLE * THINGS];
        /** OPEN or SETTLED as the last such LINE has it, whether it STANDS or not; 0 without one. */
        final int[] marks = new int[THINGS];
        /** The CLAIMS that STAND, a bit each. */
        long standing = 0L;

        void clear() {
            Arrays.fill(words, NONE);
            Arrays.fill(grounds, 0L);
            Arrays.fill(turns, 0);
            Arrays.fill(marks, 0);
            standing = 0L;
        }

        void hear(Line line) {
            switch (line.kind) {
                case Line.SAYS:
                    putWord(line, SAID);
                    break;
                case Line.DENIES:
                    putWord(line, DENIED);
                    break;
                case Line.OPENS:
                    marks[line.thing] = OPEN;
                    break;
                case Line.SETTLES:
                    marks[line.thing] = SETTLED;
                    break;
                default:
                    break;
            }
        }

        private void putWord(Line line, int kind) {
            int place = cell(line.person, line.thing);
            if (words[place] != NONE && words[place] != kind) {
                turns[place]++;
            }
            words[place] = kind;
            grounds[place] = line.grounds;
        }

        boolean isStanding(int claim) {
            return (standing & bit(claim)) != 0L;
        }

        /**
         * From none on, what stands on those that stand already is added, so that no ring holds
         * itself up. A round that goes on adds one CLAIM at least: there are no more rounds than these.
         */
        void findStanding() {
            standing = 0L;
            for (int round = 0; round < THINGS; round++) {
                long before = standing;
                for (int claim = 0; claim < THINGS; claim++) {
                    if (!isStanding(claim) && isCarried(claim)) {
                        standing |= bit(claim);
                    }
                }
                if (standing == before) {
                    return;
                }
            }
        }

        private boolean isCarried(int claim) {
            boolean isGrounded = false;
            for (int person = 0; person < PEOPLE; person++) {
                int place = cell(person, claim);
                if (words[place] == DENIED) {
                    return false;
                }
                if (words[place] == SAID && (grounds[place] & ~standing) == 0L) {
                    isGrounded = true;
                }
            }
            return isGrounded;
        }
    }
}
