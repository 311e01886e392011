/** Each promise of the document: ordinary inputs, the edges it names, wrong inputs. */
public final class PromisesTest {
    private static final int[] NO_THINGS = {-1, 40, Integer.MIN_VALUE, Integer.MAX_VALUE};
    private static final int[] NO_PEOPLE = {-1, 12, Integer.MIN_VALUE, Integer.MAX_VALUE};
    private static final int[] NO_MEETINGS = {-1, 1, 29, 30, Integer.MIN_VALUE, Integer.MAX_VALUE};

    public static void main(String[] args) {
        newObject();
        meeting();
        feed();
        end();
        record();
        recordsAtMost();
        texts();
        faults();
        limitsOfTexts();
        faultStays();
        of();
        holder();
        due();
        done();
        asked();
        word();
        stands();
        state();
        changes();
        theirs();
        late();
        quarrels();
        turned();
        count();
        status();
        lateRecordOfEarlyMeeting();
        onlyTheFirstCounts();
        wrongArguments();
        Talk.close("PromisesTest");
    }

    private static void due(String call, int got, int want) {
        Talk.due(call, got, want);
    }

    private static void newObject() {
        AgreedTalks x = new AgreedTalks();
        for (int what = 0; what < 4; what++) {
            due("new count(" + what + ")", x.count(what), 0);
        }
        due("new status", x.status(), 0);
        due("new fault", x.fault(), -1);
        due("new record(0)", x.record(0), -2);
        due("new holder", x.holder(0, 0), -1);
        due("new stands", x.stands(0, 0), -1);
        due("new of", x.of(0, 0), -1);
        due("new quarrels", x.quarrels(0), -1);
        due("new turned", x.turned(0, 0), -1);
    }

    private static void meeting() {
        AgreedTalks x = new AgreedTalks();
        due("meeting(-1)", x.meeting(-1), -1);
        due("meeting(1000)", x.meeting(1000), -1);
        due("meeting(MIN)", x.meeting(Integer.MIN_VALUE), -1);
        due("meeting(MAX)", x.meeting(Integer.MAX_VALUE), -1);
        due("meeting(0)", x.meeting(0), 0);
        due("meeting(5)", x.meeting(5), 1);
        due("meeting(4)", x.meeting(4), -1);
        due("meeting(5) again", x.meeting(5), 2);
        for (int i = 3; i < 30; i++) {
            due("meeting " + i, x.meeting(999), i);
        }
        due("31st meeting", x.meeting(999), -5);
        due("31st meeting, a day ahead", x.meeting(998), -1);
        due("31st meeting, no day", x.meeting(1000), -1);
        due("meetings", x.count(0), 30);
    }

    private static void feed() {
        AgreedTalks x = new AgreedTalks();
        for (int i = 1; i <= 15; i++) {
            due("feed " + i, x.feed(-1, 0, Integer.MIN_VALUE, Integer.MAX_VALUE, 7), 20 * i);
        }
        due("feed past 300", x.feed(0, 0, 0, 0, 0), -1);
        due("tape", x.count(3), 300);
        x.end(281);
        due("feed at 281", x.feed(0, 0, 0, 0, 0), -1);
        due("tape at 281", x.count(3), 281);
        x.end(280);
        due("feed at 280", x.feed(0, 0, 0, 0, 0), 300);
        AgreedTalks y = new AgreedTalks();
        y.meeting(0);
        // "a do" "es 3" ";b t" "akes" " 07 ": the highest byte of each number comes first
        due("feed of a text", y.feed(0x6120646f, 0x65732033, 0x3b622074, 0x616b6573, 0x20303720), 20);
        due("record of it", y.record(0), 0);
        due("its lines", y.of(0, 0), 2);
        due("its holder", y.holder(7, 0), 1);
        // a byte above 127 is one byte, not a sign
        y.feed(0x61206480, 0x20202020, 0x20202020, 0x20202020, 0x20202020);
        due("record with byte 128", y.record(0), -6);
        due("fault of byte 128", y.fault(), 2);
        y.feed(0xff612020, 0x20202020, 0x20202020, 0x20202020, 0x20202020);
        y.record(0);
        due("fault of byte 255", y.fault(), 0);
    }

    private static void end() {
        AgreedTalks x = new AgreedTalks();
        due("end(0) of none", x.end(0), 0);
        due("end(1) of none", x.end(1), -1);
        x.feed(1, 2, 3, 4, 5);
        due("end(21)", x.end(21), -1);
        due("end(-1)", x.end(-1), -1);
        due("end(MIN)", x.end(Integer.MIN_VALUE), -1);
        due("end(MAX)", x.end(Integer.MAX_VALUE), -1);
        due("tape untouched", x.count(3), 20);
        due("end(20)", x.end(20), 20);
        due("end(7)", x.end(7), 7);
        due("tape", x.count(3), 7);
        due("end(8)", x.end(8), -1);
        due("feed behind", x.feed(0, 0, 0, 0, 0), 27);
        due("end(0)", x.end(0), 0);
        due("tape empty", x.count(3), 0);
        x.meeting(0);
        Talk.lay(x, "a takes 12");
        x.end(9);
        due("record of the first bytes", x.record(0), 0);
        due("deed of the first bytes", x.holder(1, 0), 0);
    }

    private static void record() {
        AgreedTalks x = new AgreedTalks();
        x.meeting(3);
        Talk.lay(x, "a takes 1");
        due("record(1)", x.record(1), -2);
        due("record(-1)", x.record(-1), -2);
        due("record(30)", x.record(30), -2);
        due("record(MAX)", x.record(Integer.MAX_VALUE), -2);
        due("not read: the tape is left", x.count(3), 9);
        due("record(0)", x.record(0), 0);
        due("the tape is empty then", x.count(3), 0);
        due("record of an empty tape", x.record(0), -6);
        due("fault of an empty tape", x.fault(), 0);
        due("record of blanks", Talk.record(x, 0, "    "), -6);
        due("fault of blanks", x.fault(), 4);
        due("record of a wrong text", Talk.record(x, 0, "a takes x"), -6);
        due("the tape is empty behind a wrong text", x.count(3), 0);
        due("records", x.count(1), 1);
        due("next record", Talk.record(x, 0, "open 1"), 1);
    }

    private static void recordsAtMost() {
        AgreedTalks x = new AgreedTalks();
        x.meeting(0);
        for (int i = 0; i < 40; i++) {
            due("record " + i, Talk.record(x, 0, "open 1"), i);
        }
        Talk.record(x, 0, "open");
        due("fault was not read", x.fault(), -1);
        due("tape was not read", x.count(3), 4);
        due("41st record", x.record(0), -5);
        due("41st record of no meeting", x.record(1), -2);
        due("status", x.status(), -2);
        due("records", x.count(1), 40);
    }

    private static void texts() {
        Talk.sound("a asks l for 0", 1);
        Talk.sound("a asks a for 39 by 999", 1);
        Talk.sound("l takes 39", 1);
        Talk.sound("b takes 0 by 0", 1);
        Talk.sound("c drops 5;d does 6", 2);
        Talk.sound("e says 7;f says 8 as 9;g says 8 as 9 and 10", 3);
        Talk.sound("h denies 11;open 12;settled 13", 3);
        Talk.sound("   a   takes   3   by   4   ;   open   5   ", 2);
        Talk.sound("a takes3by4;open5;settled6", 3);
        Talk.sound("i says1as2and3", 1);
        Talk.sound("a takes 0000000000000000000000000000000039 by 000999", 1);
        Talk.sound("k says 1 as 1", 1);
        Talk.sound("a says 1 as 2 and 2 and 2 and 2 and 2 and 2", 1);
    }

    private static void faults() {
        Talk.wrong("m takes 1", 0);
        Talk.wrong("  z takes 1", 2);
        Talk.wrong("aa takes 1", 0);
        Talk.wrong("A takes 1", 0);
        Talk.wrong("atakes 1", 0);
        Talk.wrong("1", 0);
        Talk.wrong(";", 0);
        Talk.wrong("openx 1", 0);
        Talk.wrong("op en 1", 0);
        Talk.wrong("a", 1);
        Talk.wrong("a   ", 4);
        Talk.wrong("a open 1", 2);
        Talk.wrong("a settled 1", 2);
        Talk.wrong("a take 1", 2);
        Talk.wrong("a takess 1", 2);
        Talk.wrong("a asks", 6);
        Talk.wrong("a asks m for 3", 7);
        Talk.wrong("a asks b 3", 9);
        Talk.wrong("a asks b for", 12);
        Talk.wrong("a asks b for 40", 13);
        Talk.wrong("a asks b for 3 by", 17);
        Talk.wrong("a asks b for 3 by 1000", 18);
        Talk.wrong("a asks b for 3 as 4", 15);
        Talk.wrong("a takes 40", 8);
        Talk.wrong("a takes -1", 8);
        Talk.wrong("a takes b", 8);
        Talk.wrong("a takes 1 2", 10);
        Talk.wrong("a takes 1 by by", 13);
        Talk.wrong("a takes 1 by 4294967296", 13);
        Talk.wrong("a takes 4294967297", 8);
        Talk.wrong("a takes 18446744073709551617", 8);
        Talk.wrong("a drops 1 by 3", 10);
        Talk.wrong("a does 1 x", 9);
        Talk.wrong("a says 40", 7);
        Talk.wrong("a says 1 as", 11);
        Talk.wrong("a says 1 as 40", 12);
        Talk.wrong("a says 1 and 2", 9);
        Talk.wrong("a says 1 as 2 as 3", 14);
        Talk.wrong("a says 1 as 2 and", 17);
        Talk.wrong("a says 1 as 2 and b", 18);
        Talk.wrong("a says 1 by 2", 9);
        Talk.wrong("a denies 1 as 2", 11);
        Talk.wrong("open", 4);
        Talk.wrong("open a", 5);
        Talk.wrong("open 40", 5);
        Talk.wrong("settled 40", 8);
        Talk.wrong("open 1;", 7);
        Talk.wrong("open 1;   ", 10);
        Talk.wrong("open 1;;open 2", 7);
        Talk.wrong("open 1 open 2", 7);
        Talk.wrong("open 1,open 2", 6);
        Talk.wrong("open\t1", 4);
        Talk.wrong("open\u00001", 4);
        Talk.wrong("open 1\u00a0", 6);
        Talk.wrong("open 1;open 2;n takes 3;open", 14);
    }

    private static void limitsOfTexts() {
        String twenty = Talk.lines(20, "open 1");
        Talk.sound(twenty, 20);
        Talk.sound(twenty + " ", 20);
        Talk.wrong(twenty + ";open 2", 140);
        Talk.wrong(twenty + ";  open 2", 142);
        Talk.wrong(twenty + ";  ?", 142);
        Talk.wrong(twenty + ";", 140);
        Talk.wrong(twenty + ";  ", 142);
        Talk.wrong(twenty + " x", 140);
        String six = "a says 1 as 1 and 2 and 3 and 4 and 5 and 6";
        Talk.sound(six, 1);
        Talk.sound(six + ";open 3", 2);
        Talk.wrong(six + " and 7", 44);
        Talk.wrong(six + " and", 44);
        Talk.wrong(six + " and x", 44);
        Talk.wrong(six + " 7", 44);
        Talk.wrong("a says 1 as 1 and 1 and 1 and 1 and 1 and 1 and 1", 44);
        String longest = twenty + " ".repeat(300 - twenty.length());
        Talk.sound(longest, 20);
        Talk.wrong(longest.substring(0, 299) + "!", 299);
        Talk.wrong(" ".repeat(300), 300);
        Talk.wrong("a takes " + "9".repeat(292), 8);
        Talk.sound("a takes " + "0".repeat(291) + "7", 1);
    }

    private static void faultStays() {
        AgreedTalks x = new AgreedTalks();
        x.meeting(0);
        Talk.record(x, 0, "open 1 x");
        due("fault", x.fault(), 7);
        x.record(9);
        due("fault behind one that was not read", x.fault(), 7);
        x.meeting(4);
        due("fault behind a meeting", x.fault(), 7);
        Talk.record(x, 0, "open 1");
        due("fault behind a sound one", x.fault(), -1);
    }

    private static void of() {
        AgreedTalks x = Talk.talks("open 1", "open 1;open 2");
        due("third record", Talk.record(x, 0, "open 1;open 2;open 3"), 2);
        int[][] want = {{1, 0, 1}, {2, 1, 1}, {3, 0, 0}};
        for (int r = 0; r < 3; r++) {
            for (int what = 0; what < 3; what++) {
                due("of(" + r + ", " + what + ")", x.of(r, what), want[r][what]);
            }
        }
        due("of(0, 3)", x.of(0, 3), -1);
        due("of(0, -1)", x.of(0, -1), -1);
        due("of(3, 0)", x.of(3, 0), -1);
        due("of(-1, 0)", x.of(-1, 0), -1);
        due("of(MAX, 0)", x.of(Integer.MAX_VALUE, 0), -1);
    }

    private static void holder() {
        AgreedTalks x = Talk.talks(
            "a asks b for 1;a takes 2;a takes 3;b takes 3;b drops 2",
            "a drops 3;a drops 2",
            "b drops 3;c takes 2",
            "c drops 2;c takes 2;l takes 39;a takes 0");
        due("asked alone holds nothing", x.holder(1, 0), -1);
        due("taken", x.holder(2, 0), 0);
        due("taken by the last", x.holder(3, 0), 1);
        due("another one's drop", x.holder(3, 1), 1);
        due("dropped", x.holder(2, 1), -1);
        due("dropped: none, not the one ahead", x.holder(3, 2), -1);
        due("taken by another one", x.holder(2, 2), 2);
        due("taken anew", x.holder(2, 3), 2);
        due("as of an earlier meeting", x.holder(2, 0), 0);
        due("last deed, last person", x.holder(39, 3), 11);
        due("first deed, first person", x.holder(0, 3), 0);
        due("not yet", x.holder(39, 2), -1);
    }

    private static void due() {
        AgreedTalks x = Talk.talks(
            "a asks b for 1 by 5;b takes 1;c takes 2 by 0;c takes 3 by 999",
            "b takes 1 by 9;d takes 2;c drops 3",
            "d drops 2;b drops 1");
        due("the asker's day is not it", x.due(1, 0), -1);
        due("day 0", x.due(2, 0), 0);
        due("day 999", x.due(3, 0), 999);
        due("taken anew with a day", x.due(1, 1), 9);
        due("taken anew without a day", x.due(2, 1), -1);
        due("dropped", x.due(3, 1), -1);
        due("dropped with a day", x.due(1, 2), -1);
        due("never taken", x.due(20, 2), -1);
    }

    private static void done() {
        AgreedTalks x = Talk.talks(
            "a does 1;a takes 1;a takes 2;b does 2",
            "a does 1;a does 2",
            "a takes 1;b takes 2",
            "a does 1;a drops 1;a does 2",
            "a takes 1");
        due("done ahead of taking", x.done(1, 0), 0);
        due("another one does", x.done(2, 0), 0);
        due("done", x.done(1, 1), 1);
        due("done, too", x.done(2, 1), 1);
        due("done, and still the holder's", x.holder(2, 1), 0);
        due("taken anew by the same", x.done(1, 2), 0);
        due("taken anew by another one", x.done(2, 2), 0);
        due("done and dropped", x.done(1, 3), 0);
        due("the former holder does", x.done(2, 3), 0);
        due("dropped and taken", x.done(1, 4), 0);
        due("never taken", x.done(9, 4), 0);
    }

    private static void asked() {
        AgreedTalks x = Talk.talks(
            "a asks b for 1;a asks c for 1 by 7;a asks d for 2",
            "b takes 1;c drops 1;d does 2",
            "e asks b for 1;a takes 2;a drops 2",
            "f asks f for 3;f asks l for 39");
        due("b asked", x.asked(1, 1, 0), 1);
        due("c asked", x.asked(2, 1, 0), 1);
        due("the asker is not", x.asked(0, 1, 0), 0);
        due("for another deed", x.asked(1, 2, 0), 0);
        due("took it", x.asked(1, 1, 1), 0);
        due("dropped it without holding it", x.asked(2, 1, 1), 0);
        due("does is no answer", x.asked(3, 2, 1), 1);
        due("asked again behind taking", x.asked(1, 1, 2), 1);
        due("another one's taking and dropping", x.asked(3, 2, 2), 1);
        due("oneself", x.asked(5, 3, 3), 1);
        due("last person, last deed", x.asked(11, 39, 3), 1);
        due("not yet", x.asked(11, 39, 2), 0);
    }

    private static void word() {
        AgreedTalks x = Talk.talks("a says 1;b denies 1;l says 39 as 1", "a denies 1;b says 1 as 2", "open 1;settled 1");
        due("says", x.word(0, 1, 0), 1);
        due("denies", x.word(1, 1, 0), 0);
        due("no word", x.word(2, 1, 0), -1);
        due("a ground is no word", x.word(11, 1, 0), -1);
        due("last person, last claim", x.word(11, 39, 0), 1);
        due("denies since", x.word(0, 1, 1), 0);
        due("says since", x.word(1, 1, 1), 1);
        due("marks are no words", x.word(0, 1, 2), 0);
    }

    private static void stands() {
        AgreedTalks x = Talk.talks(
            "a says 1;b says 2 as 1;c says 3 as 1 and 2;d says 4 as 5;a says 0 as 39;a says 39",
            "d denies 2",
            "d says 2 as 7",
            "b says 2 as 7;c says 3 as 1");
        int[][] want = {{1, 1, 1, 1, 0}, {1, 1, 0, 0, 0}, {1, 1, 1, 1, 0}, {1, 1, 0, 1, 0}};
        for (int m = 0; m < want.length; m++) {
            for (int c = 0; c < 5; c++) {
                due("stands(" + c + ", " + m + ")", x.stands(c, m), want[m][c]);
            }
            due("stands(39, " + m + ")", x.stands(39, m), 1);
            due("stands(20, " + m + ")", x.stands(20, m), 0);
        }
        rings();
        longChain();
    }

    private static void rings() {
        AgreedTalks x = Talk.talks(
            "a says 1 as 2;b says 2 as 3;c says 3 as 1;a says 4 as 4;a says 5 as 6;b says 5;a says 6 as 5",
            "d says 2",
            "d denies 2");
        due("ring", x.stands(1, 0), 0);
        due("ring on itself", x.stands(4, 0), 0);
        due("ring with a ground of its own", x.stands(5, 0), 1);
        due("and what leans on it", x.stands(6, 0), 1);
        for (int c = 1; c <= 3; c++) {
            due("ring held from outside " + c, x.stands(c, 1), 1);
            due("ring denied " + c, x.stands(c, 2), 0);
        }
    }

    /** Each CLAIM leans on the next one: the grounds are found from the far end. */
    private static void longChain() {
        StringBuilder first = new StringBuilder("a says 0 as 1");
        StringBuilder second = new StringBuilder("a says 20 as 21");
        for (int c = 1; c < 20; c++) {
            first.append(";a says ").append(c).append(" as ").append(c + 1);
        }
        for (int c = 21; c < 39; c++) {
            second.append(";a says ").append(c).append(" as ").append(c + 1);
        }
        AgreedTalks x = Talk.talks(first.toString().replace("says ", "says").replace(" as ", "as"),
            second.toString().replace("says ", "says").replace(" as ", "as"), "a says 39");
        for (int c = 0; c < 40; c++) {
            due("chain without an end " + c, x.stands(c, 1), 0);
            due("chain with an end " + c, x.stands(c, 2), 1);
        }
        due("all turned", x.turned(2, 0), 0);
    }

    private static void state() {
        AgreedTalks x = Talk.talks(
            "a says 1;settled 1;settled 2;open 3;a says 4;open 4;a says 5;a says 39;settled 39",
            "a says 2;a denies 1;settled 4;open 5;settled 5",
            "a says 1;open 2;settled 3;open 39");
        int[][] want = {{0, 2, 1, 1, 1, 0}, {0, 1, 2, 1, 2, 2}, {0, 2, 1, 1, 2, 2}};
        for (int m = 0; m < want.length; m++) {
            for (int c = 0; c < 6; c++) {
                due("state(" + c + ", " + m + ")", x.state(c, m), want[m][c]);
            }
        }
        due("state(39, 1)", x.state(39, 1), 2);
        due("state(39, 2)", x.state(39, 2), 1);
        AgreedTalks y = Talk.talks("a says 1", "settled 1");
        due("settled later", y.state(1, 1), 2);
        due("not ahead of it", y.state(1, 0), 0);
    }

    private static void changes() {
        AgreedTalks x = Talk.talks(
            "a says 1;a says 1 as 2;b denies 1;a says 2",
            "a denies 1;a denies 1;a denies 2;b says 1;b denies 1;b says 1",
            "a says 1");
        due("said twice", x.changes(0, 1, 0), 0);
        due("one word", x.changes(1, 1, 0), 0);
        due("no word", x.changes(2, 1, 0), 0);
        due("turned once", x.changes(0, 1, 1), 1);
        due("turned on another claim", x.changes(0, 2, 1), 1);
        due("turned thrice", x.changes(1, 1, 1), 3);
        due("turned back", x.changes(0, 1, 2), 2);
    }

    private static void theirs() {
        AgreedTalks x = Talk.talks(
            "a takes 9;a takes 2;a takes 5 by 30;a takes 1 by 30;a takes 39 by 0;a takes 0 by 999;b takes 7",
            "a does 5;b takes 2;a drops 1;a takes 9 by 4",
            "a takes 5;a drops 39");
        Talk.theirsAre(x, 0, 0, 39, 1, 5, 0, 2, 9);
        Talk.theirsAre(x, 1, 0, 7);
        Talk.theirsAre(x, 2, 0);
        Talk.theirsAre(x, 0, 1, 39, 9, 0);
        Talk.theirsAre(x, 1, 1, 2, 7);
        Talk.theirsAre(x, 0, 2, 9, 0, 5);
    }

    private static void late() {
        AgreedTalks x = Talk.talks("a takes 1 by 9;a takes 2 by 10;a takes 3 by 11;a takes 4;b takes 5 by 0", "open 1",
            "a does 1", "b drops 5;c asks d for 1 by 1");
        due("by the day itself is not late", x.late(0, 0), 1);
        due("more are late", x.late(0, 1), 3);
        due("done is not late", x.late(0, 2), 2);
        due("another one's", x.late(1, 0), 1);
        due("dropped", x.late(1, 3), 0);
        due("asked is not late", x.late(3, 3), 0);
    }

    private static void quarrels() {
        Talk.quarrelsAre("a takes 1", "a takes 1", 0);
        Talk.quarrelsAre("a takes 1;open 2", "open 2;a takes 1", 0);
        Talk.quarrelsAre("a takes 1;a takes 1;a takes 1", "a takes 1", 2);
        Talk.quarrelsAre("a takes 1", "a takes 1 by 0", 2);
        Talk.quarrelsAre("a takes 1 by 3", "a takes 01  by 003", 0);
        Talk.quarrelsAre("a takes 1 by 3", "a takes 1 by 4", 2);
        Talk.quarrelsAre("a takes 1", "b takes 1", 2);
        Talk.quarrelsAre("a takes 1", "a drops 1", 2);
        Talk.quarrelsAre("a drops 1", "a does 1", 2);
        Talk.quarrelsAre("a asks b for 1", "a asks c for 1", 2);
        Talk.quarrelsAre("a asks b for 1 by 2", "a asks b for 1", 2);
        Talk.quarrelsAre("a asks b for 1", "b asks a for 1", 2);
        Talk.quarrelsAre("a says 1", "a denies 1", 2);
        Talk.quarrelsAre("a says 1", "a says 1 as 0", 2);
        Talk.quarrelsAre("a says 1 as 2 and 3", "a says 1 as 3 and 2", 0);
        Talk.quarrelsAre("a says 1 as 2 and 2", "a says 1 as 2", 0);
        Talk.quarrelsAre("a says 1 as 2 and 3", "a says 1 as 2", 2);
        Talk.quarrelsAre("a says 1 as 2 and 39", "a says 1 as 2 and 7", 2);
        Talk.quarrelsAre("open 1", "settled 1", 2);
        Talk.quarrelsAre("open 1", "a says 1", 2);
        Talk.quarrelsAre(Talk.lines(20, "open 1"), Talk.lines(20, "open 2"), 40);
        Talk.quarrelsAre(Talk.lines(20, "open 1"), Talk.lines(7, "open 1"), 13);
        AgreedTalks x = Talk.talks("open 1", "open 2");
        Talk.record(x, 1, "open 1");
        due("with the one of its own meeting", x.quarrels(2), 2);
        due("quarrels(3)", x.quarrels(3), -1);
        due("quarrels(-1)", x.quarrels(-1), -1);
    }

    private static void turned() {
        AgreedTalks x = Talk.talks("a says 0;a says 5;a says 39 as 5", "a denies 5;a says 6", "open 1");
        due("of meeting 0", x.turned(0, 0), 0);
        due("of meeting 0 from 1", x.turned(0, 1), 5);
        due("of meeting 0 from 5", x.turned(0, 5), 5);
        due("of meeting 0 from 6", x.turned(0, 6), 39);
        due("of meeting 0 from 39", x.turned(0, 39), 39);
        due("of meeting 0 from 40", x.turned(0, 40), -1);
        due("from MAX", x.turned(0, Integer.MAX_VALUE), -1);
        due("fell", x.turned(1, 0), 5);
        due("came", x.turned(1, 6), 6);
        due("fell with its ground", x.turned(1, 7), 39);
        due("nothing turned", x.turned(2, 0), -1);
        due("from below 0: all CLAIMS are from there on", x.turned(1, -1), 5);
        due("from MIN", x.turned(1, Integer.MIN_VALUE), 5);
        due("no meeting", x.turned(3, 0), -1);
        due("no meeting below", x.turned(-1, 0), -1);
    }

    private static void count() {
        AgreedTalks x = Talk.talks("open 1;open 2", "open 3");
        Talk.record(x, 0, "open 1;open 2;open 3");
        x.feed(0, 0, 0, 0, 0);
        x.end(13);
        int[] want = {2, 3, 3, 13};
        for (int what = 0; what < 4; what++) {
            due("count(" + what + ")", x.count(what), want[what]);
        }
        due("count(4)", x.count(4), -1);
        due("count(-1)", x.count(-1), -1);
        due("count(MIN)", x.count(Integer.MIN_VALUE), -1);
    }

    private static void status() {
        AgreedTalks x = new AgreedTalks();
        x.meeting(1000);
        due("status of a meeting that can't be", x.status(), -1);
        x.feed(0, 0, 0, 0, 0);
        x.end(-1);
        x.holder(99, 99);
        due("other calls leave it", x.status(), -1);
        x.record(0);
        due("status of a record of no meeting", x.status(), -2);
        x.meeting(0);
        due("status of a meeting", x.status(), 0);
        x.record(0);
        due("status of a wrong text", x.status(), -6);
        Talk.record(x, 0, "open 1");
        due("status of a record", x.status(), 0);
        for (int i = 0; i < 30; i++) {
            x.meeting(0);
        }
        due("status of no room", x.status(), -5);
    }

    private static void lateRecordOfEarlyMeeting() {
        AgreedTalks x = new AgreedTalks();
        x.meeting(1);
        x.meeting(2);
        Talk.record(x, 1, "b takes 1;a denies 3");
        due("holder ahead of it", x.holder(1, 1), 1);
        due("word ahead of it", x.changes(0, 3, 1), 0);
        due("without a record", x.holder(1, 0), -1);
        due("deed of none yet", x.holder(2, 1), -1);
        Talk.record(x, 0, "a takes 1;a takes 2;a says 3");
        due("its own deed at once", x.holder(2, 1), 0);
        due("it counts", x.of(1, 2), 1);
        due("holder in order of the meetings", x.holder(1, 1), 1);
        due("holder as of the first", x.holder(1, 0), 0);
        due("changes in order of the meetings", x.changes(0, 3, 1), 1);
        due("turned since", x.turned(1, 0), 3);
    }

    private static void onlyTheFirstCounts() {
        AgreedTalks x = Talk.talks("a takes 1");
        due("holder", x.holder(1, 0), 0);
        Talk.record(x, 0, "b takes 1;b takes 2;c says 4;d asks e for 5");
        due("holder is left", x.holder(1, 0), 0);
        due("no deed of it", x.holder(2, 0), -1);
        due("no claim of it", x.stands(4, 0), 0);
        due("no asking of it", x.asked(4, 5, 0), 0);
        x.meeting(10);
        due("as of a meeting without a record", x.holder(1, 1), 0);
    }

    private static void wrongArguments() {
        AgreedTalks x = Talk.talks("a takes 1;a says 1;settled 1");
        for (int thing : NO_THINGS) {
            notThere(x, 0, thing, 0);
        }
        for (int meeting : NO_MEETINGS) {
            notThere(x, 0, 1, meeting);
            due("theirs of meeting " + meeting, x.theirs(0, meeting, -1), -1);
            due("late of meeting " + meeting, x.late(0, meeting), -1);
            due("turned of meeting " + meeting, x.turned(meeting, 0), -1);
        }
        for (int person : NO_PEOPLE) {
            due("asked of person " + person, x.asked(person, 1, 0), -1);
            due("word of person " + person, x.word(person, 1, 0), -1);
            due("changes of person " + person, x.changes(person, 1, 0), -1);
            due("theirs of person " + person, x.theirs(person, 0, -1), -1);
            due("late of person " + person, x.late(person, 0), -1);
        }
        due("there: holder", x.holder(1, 0), 0);
    }

    private static void notThere(AgreedTalks x, int person, int thing, int meeting) {
        String of = " of " + thing + ", " + meeting;
        due("holder" + of, x.holder(thing, meeting), -1);
        due("due" + of, x.due(thing, meeting), -1);
        due("done" + of, x.done(thing, meeting), -1);
        due("asked" + of, x.asked(person, thing, meeting), -1);
        due("word" + of, x.word(person, thing, meeting), -1);
        due("stands" + of, x.stands(thing, meeting), -1);
        due("state" + of, x.state(thing, meeting), -1);
        due("changes" + of, x.changes(person, thing, meeting), -1);
    }
}
