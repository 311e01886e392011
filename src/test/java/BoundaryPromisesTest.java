/** Each sentence of the document's promises 1 to 21 that names a boundary case. */
public final class BoundaryPromisesTest {
    private static final int[] FAR = {-2, Integer.MIN_VALUE, Integer.MAX_VALUE};
    /** As of an object with two MEETINGS. */
    private static final int[] NO_MEETINGS = {-1, 2, 29, 30, Integer.MIN_VALUE, Integer.MAX_VALUE};
    private static final int[] NO_THINGS = {-1, 40, Integer.MIN_VALUE, Integer.MAX_VALUE};
    private static final int[] NO_PEOPLE = {-1, 12, Integer.MIN_VALUE, Integer.MAX_VALUE};

    public static void main(String[] args) {
        newObject();
        meeting();
        meetingRefused();
        feed();
        feedOfSigns();
        feedRefused();
        end();
        endRefused();
        record();
        recordAheadOfReading();
        recordOfNoText();
        fault();
        of();
        deedsOfNone();
        dueOfHolder();
        doneOrNot();
        askedOrNot();
        word();
        stands();
        state();
        changes();
        theirs();
        late();
        quarrels();
        turned();
        turnedFrom();
        count();
        status();
        Talk.close("BoundaryPromisesTest");
    }

    private static void due(String call, int got, int want) {
        Talk.due(call, got, want);
    }

    private static AgreedTalks twoMeetings() {
        return Talk.talks("a takes 1 by 5;a says 1;settled 1;a asks a for 1", "open 2");
    }

    private static void newObject() {
        Talk.sentence("No MEETINGS.");
        AgreedTalks x = new AgreedTalks();
        due("status", x.status(), 0);
        due("fault", x.fault(), -1);
        for (int what = 0; what < 4; what++) {
            due("count(" + what + ")", x.count(what), 0);
            due("of(0, " + what + ")", x.of(0, what), -1);
        }
        due("holder", x.holder(0, 0), -1);
        due("due", x.due(0, 0), -1);
        due("done", x.done(0, 0), -1);
        due("asked", x.asked(0, 0, 0), -1);
        due("word", x.word(0, 0, 0), -1);
        due("stands", x.stands(0, 0), -1);
        due("state", x.state(0, 0), -1);
        due("changes", x.changes(0, 0, 0), -1);
        due("theirs", x.theirs(0, 0, -1), -1);
        due("late", x.late(0, 0), -1);
        due("quarrels", x.quarrels(0), -1);
        due("turned", x.turned(0, 0), -1);
        due("end(0)", x.end(0), 0);
        due("record", x.record(0), -2);
        AgreedTalks y = Talk.talks("a takes 1");
        due("objects share nothing", new AgreedTalks().count(0), 0);
        due("the other one is left", y.holder(1, 0), 0);
    }

    private static void meeting() {
        Talk.sentence("A MEETING: its number.");
        AgreedTalks x = new AgreedTalks();
        for (int m = 0; m < 30; m++) {
            due("meeting " + m, x.meeting(m == 0 ? 0 : 999), m);
            due("meetings", x.count(0), m + 1);
        }
    }

    private static void meetingRefused() {
        Talk.sentence("-1 (a DAY ahead of the last one's); -5.");
        AgreedTalks x = new AgreedTalks();
        x.meeting(998);
        due("a day ahead", x.meeting(997), -1);
        due("its status", x.status(), -1);
        due("a refused one is no meeting", x.count(0), 1);
        due("the same day", x.meeting(998), 1);
        for (int m = 2; m < 30; m++) {
            x.meeting(998);
        }
        due("no room", x.meeting(998), -5);
        due("its status", x.status(), -5);
        due("no room and a day ahead", x.meeting(997), -1);
        due("no room, a later day", x.meeting(999), -5);
        // had the refused one's DAY been kept, a DEED due by 998 would be LATE
        Talk.record(x, 29, "a takes 1 by 998");
        due("late as of the last", x.late(0, 29), 0);
        due("meetings", x.count(0), 30);
    }

    private static void feed() {
        Talk.sentence("Twenty bytes come behind the TAPE, four of each number, the highest first: how many it has.");
        AgreedTalks x = new AgreedTalks();
        x.meeting(0);
        // "a ta" "kes " "12 b" "y 34" "5;b " and "take" "s 6 " with blanks
        due("first", x.feed(0x61207461, 0x6b657320, 0x31322062, 0x79203334, 0x353b6220), 20);
        due("second", x.feed(0x74616b65, 0x73203620, 0x20202020, 0x20202020, 0x20202020), 40);
        due("bytes", x.count(3), 40);
        due("record", x.record(0), 0);
        due("holder of 12", x.holder(12, 0), 0);
        due("due of 12", x.due(12, 0), 345);
        due("holder of 6", x.holder(6, 0), 1);
        AgreedTalks y = new AgreedTalks();
        y.meeting(0);
        Talk.lay(y, "open 1");
        due("behind what end() left", y.feed(0x3b6f7065, 0x6e203220, 0x20202020, 0x20202020, 0x20202020), 26);
        due("record of both", y.record(0), 0);
        due("lines of both", y.of(0, 0), 2);
        due("state of the second", y.state(2, 0), 1);
    }

    /** The highest bit of a number is a bit of its first byte, and wraps nothing around. */
    private static void feedOfSigns() {
        Talk.sentence("four of each number, the highest first");
        int blanks = 0x20202020;
        int[][] fed = {{0xe16f7065, 0}, {0x20ff2020, 1}, {0x20208020, 2}, {0x202020ff, 3}, {-1, 0}, {0, 0},
            {Integer.MIN_VALUE, 0}, {Integer.MAX_VALUE, 0}, {0x61ffffff, 1}};
        for (int[] row : fed) {
            for (int place = 0; place < 5; place++) {
                int[] n = {blanks, blanks, blanks, blanks, blanks};
                n[place] = row[0];
                AgreedTalks x = new AgreedTalks();
                x.meeting(0);
                due("feed", x.feed(n[0], n[1], n[2], n[3], n[4]), 20);
                due("record of " + row[0], x.record(0), -6);
                due("fault of " + row[0] + " as number " + place, x.fault(), 4 * place + row[1]);
            }
        }
    }

    private static void feedRefused() {
        Talk.sentence("NONE, if there would be more than 300.");
        AgreedTalks x = new AgreedTalks();
        for (int i = 1; i <= 15; i++) {
            due("feed " + i, x.feed(0, 0, 0, 0, 0), 20 * i);
        }
        for (int length = 300; length > 280; length--) {
            due("end", x.end(length), length);
            due("feed at " + length, x.feed(-1, -1, -1, -1, -1), -1);
            due("bytes", x.count(3), length);
        }
        due("end", x.end(280), 280);
        due("feed at 280", x.feed(0, 0, 0, 0, 0), 300);
        AgreedTalks y = new AgreedTalks();
        y.meeting(0);
        Talk.lay(y, " ".repeat(275) + "open 1");
        due("feed at 281", y.feed(-1, -1, -1, -1, -1), -1);
        due("a refused one changes no byte", y.record(0), 0);
        due("behind a record, there is room again", y.feed(0, 0, 0, 0, 0), 20);
    }

    private static void end() {
        Talk.sentence("The TAPE has its first n bytes alone: n.");
        AgreedTalks x = new AgreedTalks();
        due("end(0) of an empty one", x.end(0), 0);
        x.meeting(0);
        Talk.lay(x, "open 12;open 3 xyz");
        due("all of it", x.end(18), 18);
        due("a part", x.end(14), 14);
        due("less", x.end(6), 6);
        due("bytes", x.count(3), 6);
        due("the rest is gone", x.end(7), -1);
        due("record", x.record(0), 0);
        due("lines", x.of(0, 0), 1);
        due("state of 1", x.state(1, 0), 1);
        due("state of 12", x.state(12, 0), 0);
        Talk.lay(x, "open 5");
        due("none of it", x.end(0), 0);
        due("bytes", x.count(3), 0);
        due("record of none", x.record(0), -6);
    }

    private static void endRefused() {
        Talk.sentence("NONE, if it has not so many, or n is below 0.");
        AgreedTalks x = new AgreedTalks();
        due("end(1) of an empty one", x.end(1), -1);
        due("end(-1) of an empty one", x.end(-1), -1);
        Talk.lay(x, "open 1");
        for (int n : new int[] {7, 20, 300, 301, -1, Integer.MIN_VALUE, Integer.MAX_VALUE}) {
            due("end(" + n + ")", x.end(n), -1);
            due("bytes behind end(" + n + ")", x.count(3), 6);
        }
        x.meeting(0);
        due("a refused one changes no byte", x.record(0), 0);
        for (int i = 0; i < 15; i++) {
            x.feed(0, 0, 0, 0, 0);
        }
        due("end(301) of a full one", x.end(301), -1);
        due("end(300) of a full one", x.end(300), 300);
    }

    private static void record() {
        Talk.sentence("The TAPE, which is empty then, becomes a RECORD of a MEETING: its number.");
        AgreedTalks x = new AgreedTalks();
        x.meeting(0);
        x.meeting(1);
        due("first", Talk.record(x, 1, "open 1"), 0);
        due("empty then", x.count(3), 0);
        due("second", Talk.record(x, 0, "open 1;open 2"), 1);
        due("empty then", x.count(3), 0);
        due("an empty one can't be a record", x.record(0), -6);
        due("a wrong one", Talk.record(x, 0, "open x"), -6);
        due("empty behind a wrong one", x.count(3), 0);
        due("a wrong one takes no number", Talk.record(x, 0, "open 3"), 2);
        due("meeting of the first", x.of(0, 1), 1);
        due("meeting of the second", x.of(1, 1), 0);
    }

    private static void recordAheadOfReading() {
        Talk.sentence("-2; -5 (both ahead of reading it)");
        AgreedTalks x = new AgreedTalks();
        x.meeting(0);
        Talk.record(x, 0, "open 1 x");
        Talk.lay(x, "open");
        for (int meeting : new int[] {1, -1, 29, 30, Integer.MIN_VALUE, Integer.MAX_VALUE}) {
            due("record(" + meeting + ")", x.record(meeting), -2);
            due("status", x.status(), -2);
            due("fault of the one that was read", x.fault(), 7);
            due("bytes", x.count(3), 4);
        }
        due("read now", x.record(0), -6);
        due("fault", x.fault(), 4);
        for (int r = 0; r < 40; r++) {
            Talk.record(x, 0, "open 1");
        }
        Talk.lay(x, "open");
        due("no room", x.record(0), -5);
        due("status", x.status(), -5);
        due("fault of the one that was read", x.fault(), -1);
        due("bytes", x.count(3), 4);
        due("records", x.count(1), 40);
        due("no room, of no meeting", x.record(1), -2);
    }

    private static void recordOfNoText() {
        Talk.sentence("-6 (also blanks alone: FAULT at the end).");
        AgreedTalks x = new AgreedTalks();
        x.meeting(0);
        for (int blanks : new int[] {0, 1, 19, 20, 21, 299, 300}) {
            due("record of " + blanks + " blanks", Talk.record(x, 0, " ".repeat(blanks)), -6);
            due("fault of " + blanks + " blanks", x.fault(), blanks);
            due("status", x.status(), -6);
            due("bytes", x.count(3), 0);
        }
        due("records", x.count(1), 0);
        due("it has no record yet", Talk.record(x, 0, "open 1"), 0);
        due("so the first that can be counts", x.of(0, 2), 1);
    }

    private static void fault() {
        Talk.sentence("FAULT of the latest record() that was read: its place; NONE without.");
        AgreedTalks x = new AgreedTalks();
        due("ahead of any", x.fault(), -1);
        x.record(0);
        due("none was read", x.fault(), -1);
        x.meeting(0);
        Talk.record(x, 0, "?");
        due("at 0", x.fault(), 0);
        due("asked twice", x.fault(), 0);
        x.meeting(-1);
        x.record(1);
        x.feed(0, 0, 0, 0, 0);
        due("other calls leave it", x.fault(), 0);
        x.end(0);
        Talk.record(x, 0, " ".repeat(300));
        due("at 300", x.fault(), 300);
        Talk.record(x, 0, "open 1");
        due("behind one without", x.fault(), -1);
    }

    private static void of() {
        Talk.sentence("How many LINES a RECORD has (what 0), its MEETING (1), 1 if it counts, else 0 (2). NONE.");
        AgreedTalks x = Talk.talks("open 1", Talk.lines(20, "open 1"));
        Talk.record(x, 1, "open 1;open 2");
        int[][] want = {{1, 0, 1}, {20, 1, 1}, {2, 1, 0}};
        for (int r = 0; r < want.length; r++) {
            for (int what = 0; what < 3; what++) {
                due("of(" + r + ", " + what + ")", x.of(r, what), want[r][what]);
            }
            for (int what : new int[] {-1, 3, 4, Integer.MIN_VALUE, Integer.MAX_VALUE}) {
                due("of(" + r + ", " + what + ")", x.of(r, what), -1);
            }
        }
        for (int r : new int[] {-1, 3, 39, 40, Integer.MIN_VALUE, Integer.MAX_VALUE}) {
            for (int what = -1; what < 4; what++) {
                due("of(" + r + ", " + what + ")", x.of(r, what), -1);
            }
        }
    }

    private static void deedsOfNone() {
        Talk.sentence("HOLDER of a DEED as of a MEETING; NONE.");
        AgreedTalks x = twoMeetings();
        due("holder", x.holder(1, 1), 0);
        due("of a deed without", x.holder(0, 1), -1);
        for (int deed : NO_THINGS) {
            due("of no deed " + deed, x.holder(deed, 0), -1);
        }
        for (int meeting : NO_MEETINGS) {
            due("as of no meeting " + meeting, x.holder(1, meeting), -1);
        }
        due("of neither", x.holder(40, 2), -1);
    }

    private static void dueOfHolder() {
        Talk.sentence("DUE of a DEED that has a HOLDER as of a MEETING; NONE.");
        AgreedTalks x = Talk.talks("a takes 1 by 5;a takes 2;a asks b for 3 by 7", "a drops 1");
        due("due", x.due(1, 0), 5);
        due("without a day", x.due(2, 0), -1);
        due("asked for alone", x.due(3, 0), -1);
        due("dropped", x.due(1, 1), -1);
        for (int deed : NO_THINGS) {
            due("of no deed " + deed, x.due(deed, 0), -1);
        }
        for (int meeting : NO_MEETINGS) {
            due("as of no meeting " + meeting, x.due(1, meeting), -1);
        }
    }

    private static void doneOrNot() {
        Talk.sentence("Whether a DEED is DONE as of a MEETING: 1, 0; NONE.");
        AgreedTalks x = Talk.talks("a takes 1;a does 1;a takes 2;b does 3", "a drops 1");
        due("done", x.done(1, 0), 1);
        due("not done", x.done(2, 0), 0);
        due("without a holder", x.done(3, 0), 0);
        due("never named", x.done(39, 0), 0);
        due("done and dropped", x.done(1, 1), 0);
        for (int deed : NO_THINGS) {
            due("of no deed " + deed, x.done(deed, 0), -1);
        }
        for (int meeting : NO_MEETINGS) {
            due("as of no meeting " + meeting, x.done(1, meeting), -1);
        }
    }

    private static void askedOrNot() {
        Talk.sentence("Whether a PERSON is ASKED for a DEED as of a MEETING: 1, 0; NONE.");
        AgreedTalks x = Talk.talks("a asks l for 0;l asks a for 39", "open 1");
        due("asked l", x.asked(11, 0, 1), 1);
        due("asked a", x.asked(0, 39, 1), 1);
        due("not asked", x.asked(0, 0, 1), 0);
        // one past the last DEED of a PERSON is not the first of the next, nor one ahead the last of the one ahead
        due("no deed 40 of k", x.asked(10, 40, 1), -1);
        due("no deed -1 of b", x.asked(1, -1, 1), -1);
        for (int i = 0; i < NO_THINGS.length; i++) {
            due("of no deed " + NO_THINGS[i], x.asked(0, NO_THINGS[i], 0), -1);
            due("of no person " + NO_PEOPLE[i], x.asked(NO_PEOPLE[i], 0, 0), -1);
        }
        for (int meeting : NO_MEETINGS) {
            due("as of no meeting " + meeting, x.asked(11, 0, meeting), -1);
        }
    }

    private static void word() {
        Talk.sentence("WORD of a PERSON on a CLAIM as of a MEETING: 1 says, 0 denies; NONE.");
        AgreedTalks x = Talk.talks("a says 39;b denies 0;l says 0", "open 1");
        due("says", x.word(0, 39, 1), 1);
        due("denies", x.word(1, 0, 1), 0);
        due("the last person", x.word(11, 0, 1), 1);
        due("no word", x.word(0, 0, 1), -1);
        due("no claim 40 of a", x.word(0, 40, 1), -1);
        due("no claim -1 of b", x.word(1, -1, 1), -1);
        for (int i = 0; i < NO_THINGS.length; i++) {
            due("of no claim " + NO_THINGS[i], x.word(11, NO_THINGS[i], 0), -1);
            due("of no person " + NO_PEOPLE[i], x.word(NO_PEOPLE[i], 0, 0), -1);
        }
        for (int meeting : NO_MEETINGS) {
            due("as of no meeting " + meeting, x.word(0, 39, meeting), -1);
        }
    }

    private static void stands() {
        Talk.sentence("Whether a CLAIM STANDS as of a MEETING: 1, 0; NONE.");
        AgreedTalks x = twoMeetings();
        due("stands", x.stands(1, 1), 1);
        due("does not", x.stands(0, 1), 0);
        for (int claim : NO_THINGS) {
            due("no claim " + claim, x.stands(claim, 0), -1);
        }
        // a bit of a long wraps around at 64
        due("no claim 65", x.stands(65, 0), -1);
        due("no claim -63", x.stands(-63, 0), -1);
        for (int meeting : NO_MEETINGS) {
            due("as of no meeting " + meeting, x.stands(1, meeting), -1);
        }
    }

    private static void state() {
        Talk.sentence("2 SETTLED, 1 OPEN, 0 neither, as of a MEETING; NONE.");
        AgreedTalks x = twoMeetings();
        due("settled", x.state(1, 1), 2);
        due("open", x.state(2, 1), 1);
        due("not yet", x.state(2, 0), 0);
        due("neither", x.state(39, 1), 0);
        for (int claim : NO_THINGS) {
            due("of no claim " + claim, x.state(claim, 0), -1);
        }
        for (int meeting : NO_MEETINGS) {
            due("as of no meeting " + meeting, x.state(1, meeting), -1);
        }
    }

    private static void changes() {
        Talk.sentence("CHANGES; NONE.");
        AgreedTalks x = Talk.talks("a says 39;a denies 39;b says 0;b denies 0;b says 0", "open 1");
        due("once", x.changes(0, 39, 1), 1);
        due("twice", x.changes(1, 0, 1), 2);
        due("no word: none came", x.changes(0, 0, 1), 0);
        due("no claim 40 of a", x.changes(0, 40, 1), -1);
        due("no claim -1 of b", x.changes(1, -1, 1), -1);
        for (int i = 0; i < NO_THINGS.length; i++) {
            due("of no claim " + NO_THINGS[i], x.changes(1, NO_THINGS[i], 0), -1);
            due("of no person " + NO_PEOPLE[i], x.changes(NO_PEOPLE[i], 0, 0), -1);
        }
        for (int meeting : NO_MEETINGS) {
            due("as of no meeting " + meeting, x.changes(1, 0, meeting), -1);
        }
    }

    private static void theirs() {
        Talk.sentence("THEIRS as of a MEETING: the i-th DEED; how many (i -1). NONE.");
        AgreedTalks x = Talk.talks("a takes 0;a takes 39 by 3;l takes 7", "a does 0;l drops 7");
        Talk.theirsAre(x, 0, 0, 39, 0);
        Talk.theirsAre(x, 11, 0, 7);
        Talk.theirsAre(x, 0, 1, 39);
        Talk.theirsAre(x, 11, 1);
        for (int person : NO_PEOPLE) {
            due("how many of no person " + person, x.theirs(person, 0, -1), -1);
            due("first of no person " + person, x.theirs(person, 0, 0), -1);
        }
        for (int meeting : NO_MEETINGS) {
            due("how many as of no meeting " + meeting, x.theirs(0, meeting, -1), -1);
            due("first as of no meeting " + meeting, x.theirs(0, meeting, 0), -1);
        }
        for (int i : FAR) {
            due("theirs " + i, x.theirs(0, 0, i), -1);
        }
        due("theirs 39", x.theirs(0, 0, 39), -1);
        due("theirs 40", x.theirs(0, 0, 40), -1);
    }

    private static void late() {
        Talk.sentence("How many of THEIRS are LATE; NONE.");
        AgreedTalks x = Talk.talks("a takes 0 by 9;a takes 39 by 10;a takes 5;l takes 6 by 0", "a does 0");
        due("one", x.late(0, 0), 1);
        due("another one", x.late(0, 1), 1);
        due("of l", x.late(11, 0), 1);
        due("none", x.late(1, 0), 0);
        for (int person : NO_PEOPLE) {
            due("of no person " + person, x.late(person, 0), -1);
        }
        for (int meeting : NO_MEETINGS) {
            due("as of no meeting " + meeting, x.late(0, meeting), -1);
        }
    }

    private static void quarrels() {
        Talk.sentence("QUARRELS of a RECORD (0 of one that counts); NONE.");
        AgreedTalks x = Talk.talks("open 1", "open 2;open 2");
        Talk.record(x, 1, "open 1");
        Talk.record(x, 0, "open 1");
        int[] want = {0, 0, 3, 0};
        for (int r = 0; r < want.length; r++) {
            due("quarrels(" + r + ")", x.quarrels(r), want[r]);
        }
        for (int r : new int[] {-1, 4, 39, 40, Integer.MIN_VALUE, Integer.MAX_VALUE}) {
            due("quarrels(" + r + ")", x.quarrels(r), -1);
        }
    }

    private static void turned() {
        Talk.sentence("The first CLAIM (by number) whose STANDING is not as of MEETING m what it was as of the one ahead (of "
            + "MEETING 0: that STANDS)");
        AgreedTalks x = Talk.talks("a says 39;a says 20 as 39;a denies 3;a says 4 as 5", "a denies 39;a says 0",
            "b says 0 as 9;open 0;a says 0 as 8;c says 0", "b denies 0;a says 39");
        int[][] want = {{20, 39}, {0, 20, 39}, {}, {0, 20, 39}};
        for (int m = 0; m < want.length; m++) {
            int from = 0;
            for (int claim : want[m]) {
                due("turned(" + m + ", " + from + ")", x.turned(m, from), claim);
                from = claim + 1;
            }
            due("turned(" + m + ", " + from + ")", x.turned(m, from), -1);
        }
        AgreedTalks y = new AgreedTalks();
        y.meeting(0);
        y.meeting(0);
        due("of meeting 0 without a record", y.turned(0, 0), -1);
        Talk.record(y, 0, "a says 7");
        due("of meeting 0", y.turned(0, 0), 7);
        due("of a meeting without a record", y.turned(1, 0), -1);
        for (int meeting : NO_MEETINGS) {
            due("of no meeting " + meeting, x.turned(meeting == 2 ? 4 : meeting, 0), -1);
        }
    }

    private static void turnedFrom() {
        Talk.sentence("from a number on; NONE.");
        AgreedTalks x = Talk.talks("a says 0;a says 39");
        due("from 0", x.turned(0, 0), 0);
        due("from 1", x.turned(0, 1), 39);
        due("from 39", x.turned(0, 39), 39);
        for (int from : new int[] {40, 41, 63, 64, 65, Integer.MAX_VALUE}) {
            due("from " + from, x.turned(0, from), -1);
        }
        for (int from : new int[] {-1, -25, -64, Integer.MIN_VALUE}) {
            due("from " + from + ": all CLAIMS are from there on", x.turned(0, from), 0);
        }
    }

    private static void count() {
        Talk.sentence("0 MEETINGS, 1 RECORDS, 2 LINES of RECORDS that count, 3 bytes of the TAPE. NONE for others.");
        AgreedTalks x = Talk.talks("open 1;open 2", "open 3");
        Talk.record(x, 0, Talk.lines(20, "open 1"));
        Talk.record(x, 0, "open 1;open 2;open");
        x.meeting(0);
        x.record(9);
        Talk.lay(x, "open 1 and so on");
        int[] want = {2, 3, 3, 16};
        for (int what = 0; what < 4; what++) {
            due("count(" + what + ")", x.count(what), want[what]);
        }
        for (int what : new int[] {-1, 4, 5, Integer.MIN_VALUE, Integer.MAX_VALUE}) {
            due("count(" + what + ")", x.count(what), -1);
        }
    }

    private static void status() {
        Talk.sentence("What the latest call of meeting, record was REFUSED by; 0 if it was not, or ahead of any.");
        AgreedTalks x = new AgreedTalks();
        x.end(5);
        x.holder(99, 99);
        due("ahead of any", x.status(), 0);
        x.meeting(-1);
        due("meeting refused", x.status(), -1);
        askEverything(x);
        due("others leave it", x.status(), -1);
        due("asked twice", x.status(), -1);
        x.record(0);
        due("record refused by -2", x.status(), -2);
        x.meeting(0);
        due("meeting not refused", x.status(), 0);
        x.record(0);
        due("record refused by -6", x.status(), -6);
        Talk.record(x, 0, "open 1");
        due("record not refused", x.status(), 0);
        askEverything(x);
        due("others leave it 0", x.status(), 0);
        for (int i = 0; i < 40; i++) {
            x.meeting(0);
            due("meeting " + (i + 1), x.status(), i < 29 ? 0 : -5);
        }
        for (int r = 1; r < 41; r++) {
            Talk.record(x, 0, "open 1");
            due("record " + r, x.status(), r < 40 ? 0 : -5);
        }
    }

    /** Calls that are refused or answer NONE, none of them meeting or record. */
    private static void askEverything(AgreedTalks x) {
        x.end(-1);
        x.of(99, 99);
        x.due(99, 99);
        x.done(99, 99);
        x.asked(99, 99, 99);
        x.word(99, 99, 99);
        x.stands(99, 99);
        x.state(99, 99);
        x.changes(99, 99, 99);
        x.theirs(99, 99, 99);
        x.late(99, 99);
        x.quarrels(99);
        x.turned(99, 99);
        x.count(99);
        x.fault();
        for (int i = 0; i < 16; i++) {
            x.feed(0, 0, 0, 0, 0);
        }
        x.end(0);
    }
}
