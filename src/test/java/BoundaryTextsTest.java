/** Each sentence of the document's first section and of Terms I and II that names a boundary case. */
public final class BoundaryTextsTest {
    private static final int[] NO_PEOPLE = {-1, 12, Integer.MIN_VALUE, Integer.MAX_VALUE};
    private static final int[] NO_THINGS = {-1, 40, Integer.MIN_VALUE, Integer.MAX_VALUE};
    /** What stands ahead of a DEED or a CLAIM, wherever a LINE has one. */
    private static final String[] AHEAD_OF_THINGS = {
        "a asks b for ", "a takes ", "a drops ", "a does ", "a says ", "a says 1 as ", "a says 1 as 2 and ", "a denies ",
        "open ", "settled "};
    private static final String[] AHEAD_OF_DAYS = {"a asks b for 3 by ", "a takes 3 by "};
    private static final String SIX = "a says 1 as 1 and 2 and 3 and 4 and 5 and 6";

    public static void main(String[] args) {
        fullObject();
        people();
        peopleOfTexts();
        things();
        thingsOfTexts();
        days();
        daysOfTexts();
        thirtyMeetings();
        daysDontFall();
        fortyRecords();
        firstRecordCounts();
        orderOfRefusals();
        threeHundredBytes();
        blanks();
        rowsOfLettersAndDigits();
        linesAndSemicolons();
        wordsOfLines();
        optionalParts();
        onePersonLetter();
        faultOfToken();
        faultOfEnd();
        faultBehindCut();
        twentyLines();
        sixGrounds();
        Talk.close("BoundaryTextsTest");
    }

    private static void due(String call, int got, int want) {
        Talk.due(call, got, want);
    }

    /** 30 MEETINGS and 40 RECORDS of 20 LINES are 470 calls; the questions are the rest of the 512. */
    private static void fullObject() {
        Talk.sentence("An object is used for at most 512 calls after it has been made; what later calls answer is free.");
        AgreedTalks x = new AgreedTalks();
        int calls = 0;
        for (int m = 0; m < 30; m++) {
            due("meeting " + m, x.meeting(m), m);
            calls++;
        }
        for (int r = 0; r < 40; r++) {
            String text = Talk.lines(20, (char) ('a' + r % 12) + " takes" + r % 10);
            due("record " + r, Talk.record(x, r % 30, text), r);
            calls += (text.length() + 19) / 20 + 2;
        }
        for (int deed = 0; deed < 10; deed++) {
            due("holder of " + deed, x.holder(deed, 29), (20 + deed) % 12);
            due("holder of " + deed + " at first", x.holder(deed, deed), deed);
            calls += 2;
        }
        int[] counts = {30, 40, 600, 0};
        for (int what = 0; what < 4; what++) {
            due("count(" + what + ")", x.count(what), counts[what]);
            calls++;
        }
        due("quarrels of the last", x.quarrels(39), 40);
        due("31st meeting", x.meeting(999), -5);
        due("41st record", x.record(0), -5);
        calls += 3;
        due("calls so far", calls < 512 ? 1 : 0, 1);
        for (; calls < 511; calls++) {
            due("call " + (calls + 1), x.turned(29, 0), -1);
        }
        due("call 512", x.status(), -5);
        callBeyond(x);
    }

    /** The answers are free, but no call may throw. */
    private static void callBeyond(AgreedTalks x) {
        for (int i = 0; i < 100; i++) {
            x.meeting(999);
            x.feed(i, i, i, i, i);
            x.record(i % 30);
            x.holder(i, i);
            x.theirs(i, i, i);
            x.quarrels(i);
            x.turned(i, i);
        }
        x.end(0);
        Talk.record(x, 0, SIX);
    }

    private static void people() {
        Talk.sentence("PEOPLE a .. l (0 .. 11)");
        AgreedTalks x = Talk.talks("a takes 0 by 1;l takes 1 by 2;a says 0;a denies 0;l denies 1;b asks a for 2;"
            + "b asks l for 3;b asks b for 0;b says 0");
        due("holder a", x.holder(0, 0), 0);
        due("holder l", x.holder(1, 0), 11);
        due("asked a", x.asked(0, 2, 0), 1);
        due("asked l", x.asked(11, 3, 0), 1);
        due("word of a", x.word(0, 0, 0), 0);
        due("word of l", x.word(11, 1, 0), 0);
        due("changes of a", x.changes(0, 0, 0), 1);
        due("changes of l", x.changes(11, 1, 0), 0);
        Talk.theirsAre(x, 0, 0, 0);
        Talk.theirsAre(x, 11, 0, 1);
        due("late of a", x.late(0, 0), 1);
        due("late of l", x.late(11, 0), 1);
        for (int person : NO_PEOPLE) {
            due("asked of " + person, x.asked(person, 2, 0), -1);
            due("word of " + person, x.word(person, 0, 0), -1);
            due("changes of " + person, x.changes(person, 0, 0), -1);
            due("theirs of " + person, x.theirs(person, 0, -1), -1);
            due("first of theirs of " + person, x.theirs(person, 0, 0), -1);
            due("late of " + person, x.late(person, 0), -1);
        }
    }

    private static void peopleOfTexts() {
        Talk.sentence("PEOPLE a .. l (0 .. 11)");
        for (char person = 'a'; person <= 'l'; person++) {
            AgreedTalks x = Talk.talks(person + " takes 3;a asks " + person + " for 4");
            due("holder " + person, x.holder(3, 0), person - 'a');
            due("asked " + person, x.asked(person - 'a', 4, 0), 1);
        }
        for (char other : new char[] {'m', 'z', '`', '{', 'A', 'L', '@', '0', 0, 255}) {
            Talk.wrong(other + " takes 1", 0);
            Talk.wrong("a asks " + other + " for 1", 7);
        }
    }

    private static void things() {
        Talk.sentence("DEEDS and CLAIMS 0 .. 39");
        AgreedTalks x = Talk.talks("a takes 0 by 7;a takes 39 by 8;a asks b for 0;a asks b for 39;a says 0;a says 39;"
            + "settled 0;settled 39;b says 0;b says 39;a does 39");
        for (int thing : new int[] {0, 39}) {
            due("holder of " + thing, x.holder(thing, 0), 0);
            due("due of " + thing, x.due(thing, 0), thing == 0 ? 7 : 8);
            due("done of " + thing, x.done(thing, 0), thing == 0 ? 0 : 1);
            due("asked for " + thing, x.asked(1, thing, 0), 1);
            due("word on " + thing, x.word(0, thing, 0), 1);
            due("stands " + thing, x.stands(thing, 0), 1);
            due("state of " + thing, x.state(thing, 0), 2);
            due("changes on " + thing, x.changes(0, thing, 0), 0);
            due("turned from " + thing, x.turned(0, thing), thing);
        }
        for (int thing : NO_THINGS) {
            due("holder of " + thing, x.holder(thing, 0), -1);
            due("due of " + thing, x.due(thing, 0), -1);
            due("done of " + thing, x.done(thing, 0), -1);
            // with a PERSON, what is past the last one must not be taken for the next PERSON's first
            due("asked for " + thing, x.asked(0, thing, 0) + x.asked(2, thing, 0), -2);
            due("word on " + thing, x.word(0, thing, 0) + x.word(1, thing, 0), -2);
            due("stands " + thing, x.stands(thing, 0), -1);
            due("state of " + thing, x.state(thing, 0), -1);
            due("changes on " + thing, x.changes(0, thing, 0) + x.changes(1, thing, 0), -2);
        }
    }

    private static void thingsOfTexts() {
        Talk.sentence("DEEDS and CLAIMS 0 .. 39");
        for (String ahead : AHEAD_OF_THINGS) {
            Talk.sound(ahead + "0", 1);
            Talk.sound(ahead + "39", 1);
            Talk.sound(ahead + "00039", 1);
            // 2 to the 32nd and 2 to the 64th, and 39 above them, are 0 and 39 again where numbers wrap around
            for (String number : new String[] {"40", "41", "99", "100", "999", "1000", "040", "2147483647", "2147483648",
                "4294967296", "4294967335", "18446744073709551616", "18446744073709551655", "-1", "-", "b", "x"}) {
                Talk.wrong(ahead + number, ahead.length());
            }
            Talk.wrong(ahead + "9".repeat(300 - ahead.length()), ahead.length());
        }
    }

    private static void days() {
        Talk.sentence("DAYS 0 .. 999");
        AgreedTalks x = new AgreedTalks();
        for (int day : new int[] {-1, 1000, Integer.MIN_VALUE, Integer.MAX_VALUE}) {
            due("meeting(" + day + ")", x.meeting(day), -1);
        }
        due("meetings", x.count(0), 0);
        due("meeting(0)", x.meeting(0), 0);
        due("meeting(999)", x.meeting(999), 1);
        due("meeting(1000)", x.meeting(1000), -1);
        due("meetings", x.count(0), 2);
    }

    private static void daysOfTexts() {
        Talk.sentence("DAYS 0 .. 999");
        for (String ahead : AHEAD_OF_DAYS) {
            for (String number : new String[] {"0", "40", "999", "00999"}) {
                Talk.sound(ahead + number, 1);
            }
            for (String number : new String[] {"1000", "1001", "9999", "01000", "4294967296", "4294968295", "-1", "b"}) {
                Talk.wrong(ahead + number, ahead.length());
            }
        }
        AgreedTalks x = Talk.talks("a takes 1 by 0;a takes 2 by 999;a takes 3 by 00100");
        due("due by 0", x.due(1, 0), 0);
        due("due by 999", x.due(2, 0), 999);
        due("due by 00100", x.due(3, 0), 100);
    }

    private static void thirtyMeetings() {
        Talk.sentence("MEETINGS 0 .. 29 (30 at most)");
        AgreedTalks x = new AgreedTalks();
        for (int m = 0; m < 30; m++) {
            due("done as of " + m + " ahead of it", x.done(1, m), -1);
            due("meeting " + m, x.meeting(500), m);
            due("done as of " + m, x.done(1, m), 0);
        }
        due("31st meeting", x.meeting(500), -5);
        due("31st meeting again", x.meeting(999), -5);
        due("meetings", x.count(0), 30);
        due("record of the 30th", Talk.record(x, 29, "l takes 39"), 0);
        due("holder as of 29", x.holder(39, 29), 11);
        due("holder as of 28", x.holder(39, 28), -1);
        due("done as of 30", x.done(1, 30), -1);
        due("record of the 31st", x.record(30), -2);
    }

    private static void daysDontFall() {
        Talk.sentence("on DAYS that don't fall");
        AgreedTalks x = new AgreedTalks();
        due("first", x.meeting(500), 0);
        due("a day less", x.meeting(499), -1);
        due("far less", x.meeting(0), -1);
        due("alike", x.meeting(500), 1);
        due("a day more", x.meeting(501), 2);
        due("refused", x.meeting(1000), -1);
        due("the last one's day is left by a refused one", x.meeting(501), 3);
        due("less than the last", x.meeting(500), -1);
        due("last day", x.meeting(999), 4);
        due("last day again", x.meeting(999), 5);
        due("meetings", x.count(0), 6);
    }

    private static void fortyRecords() {
        Talk.sentence("RECORDS, 40 at most, each of a MEETING");
        AgreedTalks x = new AgreedTalks();
        x.meeting(0);
        x.meeting(1);
        for (int r = 0; r < 40; r++) {
            // a text that can't be takes no room
            due("wrong text", x.record(0), -6);
            due("record " + r, Talk.record(x, 0, "open 1"), r);
            due("meeting of record " + r, x.of(r, 1), 0);
        }
        due("41st record", Talk.record(x, 0, "open 1"), -5);
        due("41st record, of a meeting without one", x.record(1), -5);
        due("records", x.count(1), 40);
        due("of the 40th", x.of(39, 0), 1);
        due("of the 41st", x.of(40, 0), -1);
        due("quarrels of the 40th", x.quarrels(39), 0);
        due("quarrels of the 41st", x.quarrels(40), -1);
    }

    private static void firstRecordCounts() {
        Talk.sentence("the first one of a MEETING is the one that counts; others are only compared with it.");
        AgreedTalks x = new AgreedTalks();
        x.meeting(0);
        x.meeting(1);
        due("one that can't be", Talk.record(x, 0, "a takes 1 x"), -6);
        due("of no meeting", Talk.record(x, 2, "a takes 2"), -2);
        x.end(0);
        due("first of meeting 1", Talk.record(x, 1, "b takes 1"), 0);
        due("first of meeting 0", Talk.record(x, 0, "c takes 2;c takes 3"), 1);
        due("second of meeting 0", Talk.record(x, 0, "d takes 2;d takes 4;c takes 3;open 5"), 2);
        due("second of meeting 1", Talk.record(x, 1, "e takes 1"), 3);
        int[] counts = {1, 1, 0, 0};
        for (int r = 0; r < 4; r++) {
            due("whether " + r + " counts", x.of(r, 2), counts[r]);
        }
        due("lines that count", x.count(2), 3);
        due("holder of 1", x.holder(1, 1), 1);
        due("holder of 2", x.holder(2, 1), 2);
        due("holder of 4", x.holder(4, 1), -1);
        due("state of 5", x.state(5, 1), 0);
        due("compared with the one of its own meeting", x.quarrels(2), 4);
        due("compared, of meeting 1", x.quarrels(3), 2);
    }

    private static void orderOfRefusals() {
        Talk.sentence("REFUSED by: -1 a number that can't be; -2 there is no such MEETING, RECORD; -5 no room; -6 a text "
            + "that can't be. The first of these in that order.");
        AgreedTalks x = new AgreedTalks();
        due("-2 ahead of -6", x.record(0), -2);
        for (int m = 0; m < 30; m++) {
            x.meeting(7);
        }
        due("-5", x.meeting(7), -5);
        due("-1 ahead of -5: a day ahead of the last", x.meeting(6), -1);
        due("-1 ahead of -5: no day", x.meeting(1000), -1);
        due("-1 ahead of -5: below", x.meeting(-1), -1);
        due("-6", x.record(0), -6);
        for (int r = 0; r < 40; r++) {
            Talk.record(x, 0, "open 1");
        }
        due("-5 ahead of -6", x.record(0), -5);
        due("-2 ahead of -5 and -6", x.record(30), -2);
        due("-2 ahead of -5, with a text that can be", Talk.record(x, -1, "open 1"), -2);
        due("status", x.status(), -2);
    }

    private static void threeHundredBytes() {
        Talk.sentence("A RECORD is a TEXT of at most 300 bytes");
        String filled = " ".repeat(294);
        Talk.sound(filled + "open 1", 1);
        Talk.sound("open 1" + filled, 1);
        Talk.wrong(filled + "open x", 299);
        Talk.wrong(filled + "  open", 300);
        Talk.wrong(filled + "open ;", 299);
        Talk.wrong(filled.substring(1) + "open 1;", 300);
        Talk.wrong(" ".repeat(291) + "a asks b ", 300);
        Talk.wrong(" ".repeat(299) + "a", 300);
        AgreedTalks x = new AgreedTalks();
        x.meeting(0);
        Talk.lay(x, filled + "open 1");
        due("one byte more has no room", x.feed(0x3b6f7065, 0x6e203220, 0x20202020, 0x20202020, 0x20202020), -1);
        due("record", x.record(0), 0);
        due("lines", x.of(0, 0), 1);
    }

    private static void blanks() {
        Talk.sentence("any blanks (32) between TOKENS");
        Talk.sound("a takes3by4;b asks c for5by6;open7;settled8;d says9as10and11", 5);
        Talk.sound("a takes 3 by 4 ; b asks c for 5 by 6 ; open 7 ; settled 8 ; d says 9 as 10 and 11", 5);
        Talk.sound("   a    takes    3    by    4    ;    open     7    ", 2);
        Talk.wrong("op en 7", 0);
        Talk.wrong("open 1 2", 7);
        Talk.wrong("a says 1 a s 2", 9);
        for (int value : new int[] {0, 9, 10, 13, 31, 33, 160, 255}) {
            Talk.wrong("open" + (char) value + "7", 4);
            Talk.wrong((char) value + "open 7", 0);
            Talk.wrong("open 7" + (char) value, 6);
        }
    }

    private static void rowsOfLettersAndDigits() {
        Talk.sentence("longest rows of letters a .. z, of digits, single other bytes");
        Talk.wrong("openz 1", 0);
        Talk.wrong("opena 1", 0);
        Talk.wrong("zopen 1", 0);
        Talk.wrong("az 1", 0);
        Talk.wrong("atakes 1", 0);
        Talk.wrong("a takesz 1", 2);
        Talk.wrong("a takes 1 byz 2", 10);
        Talk.sound("open 09", 1);
        Talk.sound("open 30", 1);
        Talk.wrong("open 390", 5);
        Talk.wrong("open 399", 5);
        // beside a, z, 0 and 9 stand bytes of their own, each a TOKEN by itself
        for (int value : new int[] {'a' - 1, 'z' + 1, '0' - 1, '9' + 1, 'A', 'Z', '_', 127, 128, 255, 0}) {
            Talk.wrong("open" + (char) value + " 1", 4);
            Talk.wrong("open 1" + (char) value, 6);
            Talk.wrong("open 1;" + (char) value + (char) value, 7);
        }
        Talk.wrong("open 1;;", 7);
        Talk.wrong("open 1;;open 2", 7);
        AgreedTalks x = Talk.talks("a takes9;b takes10;c takes19by09");
        due("one digit", x.holder(9, 0), 0);
        due("two digits", x.holder(10, 0), 1);
        due("due by 09", x.due(19, 0), 9);
        due("no row cut in two", x.holder(1, 0), -1);
    }

    private static void linesAndSemicolons() {
        Talk.sentence("LINE {\";\" LINE}");
        Talk.sound("open 1", 1);
        Talk.sound("open 1;open 2", 2);
        Talk.wrong("", 0);
        Talk.wrong(";", 0);
        Talk.wrong(";open 1", 0);
        Talk.wrong("open 1;", 7);
        Talk.wrong("open 1; ; open 2", 8);
        Talk.wrong("open 1 open 2", 7);
        Talk.wrong("open 1,open 2", 6);
        Talk.wrong("open 1:open 2", 6);
    }

    private static void wordsOfLines() {
        Talk.sentence("LINE: PERSON \"asks\" PERSON \"for\" DEED [\"by\" DAY] | PERSON \"takes\" DEED [\"by\" DAY] | PERSON "
            + "(\"drops\" | \"does\") DEED | PERSON \"says\" CLAIM [\"as\" CLAIM {\"and\" CLAIM}] | PERSON \"denies\" CLAIM | "
            + "(\"open\" | \"settled\") CLAIM.");
        for (String verb : new String[] {"asks", "takes", "drops", "does", "says", "denies", "for", "by", "as", "and"}) {
            Talk.wrong(verb + " 1", 0);
            Talk.wrong("a " + verb + "x 1", 2);
            Talk.wrong("a " + verb.substring(1) + " 1", 2);
            Talk.wrong("a " + verb.substring(0, verb.length() - 1) + " 1", 2);
            Talk.wrong("open " + verb, 5);
        }
        for (String word : new String[] {"open", "settled", "for", "by", "as", "and", "a", ";", "1"}) {
            Talk.wrong("a " + word + " 1", 2);
            Talk.wrong("a asks b " + (word.equals("for") ? "by" : word) + " 1", 9);
        }
        for (String mark : new String[] {"opens", "ope", "settle", "settledd"}) {
            Talk.wrong(mark + " 1", 0);
        }
        Talk.wrong("1 takes 1", 0);
        Talk.wrong("a asks 1 for 1", 7);
        Talk.wrong("a asks for 1", 7);
        Talk.wrong("a asks b takes 1", 9);
    }

    private static void optionalParts() {
        Talk.sentence("[\"as\" CLAIM {\"and\" CLAIM}]");
        for (String ahead : new String[] {"a drops 1", "a does 1", "a denies 1", "open 1", "settled 1"}) {
            Talk.wrong(ahead + " by 2", ahead.length() + 1);
            Talk.wrong(ahead + " as 2", ahead.length() + 1);
            Talk.wrong(ahead + " and 2", ahead.length() + 1);
        }
        for (String ahead : new String[] {"a takes 1", "a asks b for 1", "a takes 1 by 2", "a asks b for 1 by 2"}) {
            Talk.wrong(ahead + " as 2", ahead.length() + 1);
            Talk.wrong(ahead + " and 2", ahead.length() + 1);
        }
        Talk.wrong("a takes 1 by 2 by 3", 15);
        Talk.wrong("a asks b for 1 by 2 by 3", 20);
        Talk.wrong("a says 1 by 2", 9);
        Talk.wrong("a says 1 and 2", 9);
        Talk.wrong("a says 1 as 2 by 3", 14);
        Talk.wrong("a says 1 as 2 as 3", 14);
        Talk.wrong("a says 1 as and 3", 12);
    }

    private static void onePersonLetter() {
        Talk.sentence("PERSON: one letter a .. l.");
        Talk.wrong("aa takes 1", 0);
        Talk.wrong("ab says 1", 0);
        Talk.wrong("a asks bb for 1", 7);
        Talk.sound("a asks a for 1", 1);
        Talk.sound("l asks l for 1", 1);
    }

    private static void faultOfToken() {
        Talk.sentence("FAULT: the first TOKEN that can't go on there");
        Talk.wrong("   m takes 40", 3);
        Talk.wrong("open 1;open 2;n takes 40;open", 14);
        Talk.wrong("open 40 ; ?", 5);
        Talk.wrong("open 1;  a takes 2 by 1000;", 22);
        Talk.wrong("a says 1 as 2 and 40 and 41", 18);
        Talk.wrong("a asks b for 1 by", 17);
        Talk.wrong("a asks b for 1 by ;", 18);
        Talk.wrong("a takes ;", 8);
        Talk.wrong("a ;", 2);
        Talk.wrong("a asks ;", 7);
        Talk.wrong("a asks b ;", 9);
        Talk.wrong("a says 1 as ;", 12);
        Talk.wrong("a says 1 as 2 and ;", 18);
    }

    /** Each text is cut behind each of its TOKENS; the numbers tell behind which of them it may end. */
    private static void faultOfEnd() {
        Talk.sentence("(the end's: the TEXT's length)");
        cutEverywhere("a asks b for 3 by 20", "0000101");
        cutEverywhere("a takes 3 by 20", "00101");
        cutEverywhere("a drops 3", "001");
        cutEverywhere("a does 3", "001");
        cutEverywhere("a says 3 as 4 and 5", "0010101");
        cutEverywhere("a denies 3", "001");
        cutEverywhere("open 3", "01");
        cutEverywhere("settled 3", "01");
        cutEverywhere("open 3 ; open 4", "01001");
        Talk.wrong("", 0);
        Talk.wrong(" ", 1);
        Talk.wrong(" ".repeat(300), 300);
    }

    private static void cutEverywhere(String text, String mayEnd) {
        String[] tokens = text.split(" ");
        StringBuilder cut = new StringBuilder();
        for (int i = 0; i < tokens.length; i++) {
            cut.append(i == 0 ? "" : " ").append(tokens[i]);
            for (String blanks : new String[] {"", " ", "   "}) {
                String whole = cut + blanks;
                if (mayEnd.charAt(i) == '1') {
                    Talk.sound(whole, whole.contains(";") ? 2 : 1);
                } else {
                    Talk.wrong(whole, whole.length());
                }
            }
        }
    }

    /** Bytes that end() cut off stand behind the TEXT no more, whatever they were. */
    private static void faultBehindCut() {
        Talk.sentence("(the end's: the TEXT's length)");
        String text = "a says 1 as 2 and 3;b takes 4 by 5";
        int[] places = {0, 2, 7, 12, 18, 20, 22, 28, 33};
        for (int place : places) {
            AgreedTalks x = new AgreedTalks();
            x.meeting(0);
            Talk.lay(x, text);
            due("end(" + place + ")", x.end(place), place);
            due("record of the first " + place, x.record(0), -6);
            due("fault of the first " + place, x.fault(), place);
        }
        AgreedTalks y = new AgreedTalks();
        y.meeting(0);
        Talk.lay(y, "a takes 39");
        y.end(9);
        due("a row of digits cut", y.record(0), 0);
        due("its deed", y.holder(3, 0), 0);
    }

    private static void twentyLines() {
        Talk.sentence("20 LINES at most (the 21st's first TOKEN)");
        String twenty = Talk.lines(20, "open 1");
        Talk.sound(twenty, 20);
        Talk.sound(twenty + "   ", 20);
        Talk.wrong(twenty + ";open 2", 140);
        Talk.wrong(twenty + ";a takes 3", 140);
        Talk.wrong(twenty + " ;  open 2", 143);
        Talk.wrong(twenty + ";open x;open 2", 140);
        Talk.wrong(twenty + ";?", 140);
        Talk.wrong(twenty + ";;", 140);
        Talk.wrong(twenty + ";", 140);
        Talk.wrong(twenty + ";   ", 143);
        Talk.wrong(twenty + " open 2", 140);
        Talk.wrong(Talk.lines(19, "open 1") + ";open x;open 2", 138);
        Talk.wrong(Talk.lines(30, "open 1"), 140);
    }

    private static void sixGrounds() {
        Talk.sentence("6 CLAIMS behind \"as\" at most (the \"and\" ahead of the 7th)");
        Talk.sound(SIX, 1);
        Talk.sound(SIX + "  ;" + SIX, 2);
        Talk.wrong(SIX + " and 7", 44);
        Talk.wrong(SIX + "and7", 43);
        Talk.wrong(SIX + "   and 40", 46);
        Talk.wrong(SIX + " and", 44);
        Talk.wrong(SIX + " and ?", 44);
        Talk.wrong(SIX + " and 7 and 8", 44);
        Talk.wrong(SIX + " as 7", 44);
        Talk.wrong("a says 1 as 2 and 2 and 2 and 2 and 2 and 2 and 2", 44);
        Talk.wrong("open 1;" + SIX + " and 7", 51);
        AgreedTalks x = Talk.talks(SIX.replace("1 as 1", "0 as 1") + ";a says 1;a says 2;a says 3;a says 4;a says 5",
            "a says 6");
        due("the 6th is a ground, too", x.stands(0, 0), 0);
        due("with all six", x.stands(0, 1), 1);
    }
}
