/** Each sentence of the document's Terms III to V that names a boundary case. */
public final class BoundaryTermsTest {
    /** One LINE of each kind, all of PERSON a (where there is one) and of the number 1. */
    private static final String[] KINDS = {
        "b asks a for 1", "a takes 1", "a drops 1", "a does 1", "a says 1", "a denies 1", "open 1", "settled 1"};

    public static void main(String[] args) {
        asOfMeeting();
        asOfInOrder();
        asOfGoesBack();
        kindsLeaveOthersAlone();
        holderTookLast();
        holderNotDropped();
        anothersDrop();
        noneElseHolds();
        dueOfThatLine();
        doneBehindThatLine();
        anothersDoes();
        takenAnewIsNotDone();
        askedSince();
        lastWord();
        noWordDenies();
        somePersonSays();
        groundsNoneAtOnce();
        noRings();
        fewestStand();
        longChains();
        settled();
        open();
        changes();
        theirsNotDone();
        theirsInOrder();
        late();
        alikeInAllWords();
        groundsAsSet();
        differencesSummed();
        Talk.close("BoundaryTermsTest");
    }

    private static void due(String call, int got, int want) {
        Talk.due(call, got, want);
    }

    private static void asOfMeeting() {
        Talk.sentence("AS OF a MEETING m: all LINES of RECORDS that count, of MEETINGS 0 .. m");
        AgreedTalks x = new AgreedTalks();
        for (int m = 0; m < 30; m++) {
            x.meeting(m);
        }
        due("record of 29", Talk.record(x, 29, "l takes 2"), 0);
        due("record of 15", Talk.record(x, 15, "b takes 2"), 1);
        due("record of 0", Talk.record(x, 0, "a takes 2"), 2);
        for (int m = 0; m < 30; m++) {
            due("holder as of " + m, x.holder(2, m), m < 15 ? 0 : m < 29 ? 1 : 11);
        }
        AgreedTalks y = new AgreedTalks();
        y.meeting(5);
        due("as of a meeting without a record", y.holder(2, 0), -1);
        due("done without a record", y.done(2, 0), 0);
        due("asked without a record", y.asked(0, 2, 0), 0);
        due("stands without a record", y.stands(2, 0), 0);
        due("theirs without a record", y.theirs(0, 0, -1), 0);
        due("turned without a record", y.turned(0, 0), -1);
        due("lines without a record", y.count(2), 0);
    }

    /** The order is the MEETINGS', not the one in which their RECORDS came. */
    private static void asOfInOrder() {
        Talk.sentence("all LINES of RECORDS that count, of MEETINGS 0 .. m, in order.");
        AgreedTalks x = new AgreedTalks();
        x.meeting(1);
        x.meeting(1);
        Talk.record(x, 1, "b takes 1;b does 1;a denies 2;open 3");
        due("holder", x.holder(1, 1), 1);
        due("changes", x.changes(0, 2, 1), 0);
        Talk.record(x, 0, "a takes 1;c takes 4;a says 2;settled 3");
        due("holder behind the late record", x.holder(1, 1), 1);
        due("done behind it", x.done(1, 1), 1);
        due("its own deed", x.holder(4, 1), 2);
        due("changes behind it", x.changes(0, 2, 1), 1);
        due("word behind it", x.word(0, 2, 1), 0);
        due("state behind it", x.state(3, 1), 1);
        due("in order within a record", Talk.talks("a takes 1;b takes 1;c takes 1").holder(1, 0), 2);
    }

    /** What a later MEETING brought is not there as of an earlier one, whichever was asked for first. */
    private static void asOfGoesBack() {
        Talk.sentence("all LINES of RECORDS that count, of MEETINGS 0 .. m, in order.");
        AgreedTalks x = Talk.talks("open 9",
            "a takes 1 by 5;a does 1;a takes 2 by 6;b asks c for 3;d says 4;d denies 4;d says 4;e denies 5;settled 4;open 6");
        for (int round = 0; round < 2; round++) {
            due("later holder", x.holder(1, 1), 0);
            due("earlier holder", x.holder(1, 0), -1);
            due("later due", x.due(1, 1), 5);
            due("earlier due", x.due(1, 0), -1);
            due("later done", x.done(1, 1), 1);
            due("earlier done", x.done(1, 0), 0);
            due("later asked", x.asked(2, 3, 1), 1);
            due("earlier asked", x.asked(2, 3, 0), 0);
            due("later word", x.word(3, 4, 1), 1);
            due("earlier word", x.word(3, 4, 0), -1);
            due("later changes", x.changes(3, 4, 1), 2);
            due("earlier changes", x.changes(3, 4, 0), 0);
            due("later stands", x.stands(4, 1), 1);
            due("earlier stands", x.stands(4, 0), 0);
            due("later state", x.state(4, 1), 2);
            due("earlier state", x.state(4, 0), 0);
            due("later theirs", x.theirs(0, 1, 0), 2);
            due("earlier theirs", x.theirs(0, 0, -1), 0);
            due("later late", x.late(0, 1), 1);
            due("earlier late", x.late(0, 0), 0);
        }
    }

    /** No sentence of its own, but all of Terms III: a LINE changes what its own kind tells of, and nothing else. */
    private static void kindsLeaveOthersAlone() {
        Talk.sentence("");
        String ahead = "a takes 1 by 5;b asks a for 1;a says 1;open 1";
        int[][] want = {
            {0, 5, 0, 1, 1, 1, 1, 0}, {0, -1, 0, 0, 1, 1, 1, 0}, {-1, -1, 0, 0, 1, 1, 1, 0}, {0, 5, 1, 1, 1, 1, 1, 0},
            {0, 5, 0, 1, 1, 1, 1, 0}, {0, 5, 0, 1, 0, 0, 1, 1}, {0, 5, 0, 1, 1, 1, 1, 0}, {0, 5, 0, 1, 1, 1, 2, 0}};
        for (int kind = 0; kind < KINDS.length; kind++) {
            AgreedTalks x = Talk.talks(ahead + ";" + KINDS[kind]);
            String behind = " behind " + KINDS[kind];
            due("holder" + behind, x.holder(1, 0), want[kind][0]);
            due("due" + behind, x.due(1, 0), want[kind][1]);
            due("done" + behind, x.done(1, 0), want[kind][2]);
            due("asked" + behind, x.asked(0, 1, 0), want[kind][3]);
            due("word" + behind, x.word(0, 1, 0), want[kind][4]);
            due("stands" + behind, x.stands(1, 0), want[kind][5]);
            due("state" + behind, x.state(1, 0), want[kind][6]);
            due("changes" + behind, x.changes(0, 1, 0), want[kind][7]);
            due("asked is b" + behind, x.asked(1, 1, 0), 0);
            due("word of b" + behind, x.word(1, 1, 0), -1);
        }
    }

    private static void holderTookLast() {
        Talk.sentence("A DEED has a HOLDER: who took it last");
        AgreedTalks x = Talk.talks("a takes 1;b takes 1", "a takes 1", "a takes 1");
        due("the last of two", x.holder(1, 0), 1);
        due("the first one again", x.holder(1, 1), 0);
        due("the same again", x.holder(1, 2), 0);
        due("another deed", x.holder(2, 2), -1);
    }

    private static void holderNotDropped() {
        Talk.sentence("who took it last, if that one has not dropped it since");
        AgreedTalks x = Talk.talks("a drops 1;a takes 1", "a drops 1", "a drops 1", "a takes 1", "b takes 1;b drops 1");
        due("dropped ahead of taking", x.holder(1, 0), 0);
        due("dropped", x.holder(1, 1), -1);
        due("dropped twice", x.holder(1, 2), -1);
        due("taken again", x.holder(1, 3), 0);
        due("it does not fall back to the one ahead", x.holder(1, 4), -1);
    }

    private static void anothersDrop() {
        Talk.sentence("(another one's \"drops\" does nothing)");
        AgreedTalks x = Talk.talks("a takes 1 by 7;b drops 1", "a does 1;l drops 1", "b takes 2;c takes 2;b drops 2");
        due("holder", x.holder(1, 0), 0);
        due("due", x.due(1, 0), 7);
        due("theirs", x.theirs(0, 0, -1), 1);
        due("done stays", x.done(1, 1), 1);
        due("of one who held it ahead", x.holder(2, 2), 2);
    }

    private static void noneElseHolds() {
        Talk.sentence("none else.");
        AgreedTalks x = Talk.talks("a asks b for 1 by 3;a asks b for 1;b says 1;b does 1;open 1;settled 1;b denies 1");
        due("holder", x.holder(1, 0), -1);
        due("due", x.due(1, 0), -1);
        due("done", x.done(1, 0), 0);
        for (int person = 0; person < 12; person++) {
            due("theirs of " + person, x.theirs(person, 0, -1), 0);
            due("late of " + person, x.late(person, 0), 0);
        }
    }

    private static void dueOfThatLine() {
        Talk.sentence("It is DUE by the DAY of that LINE (NONE without).");
        AgreedTalks x = Talk.talks("a asks b for 1 by 5;b takes 1", "b takes 1 by 0", "b takes 1 by 999", "b takes 1",
            "c takes 1 by 8;b asks c for 1 by 3", "c drops 1");
        int[] want = {-1, 0, 999, -1, 8, -1};
        for (int m = 0; m < want.length; m++) {
            due("due as of " + m, x.due(1, m), want[m]);
        }
    }

    private static void doneBehindThatLine() {
        Talk.sentence("It is DONE, if its HOLDER says \"does\" behind that LINE");
        AgreedTalks x = Talk.talks("a does 1;a takes 1", "a does 1", "a does 1", "a drops 1", "a does 1");
        int[] want = {0, 1, 1, 0, 0};
        for (int m = 0; m < want.length; m++) {
            due("done as of " + m, x.done(1, m), want[m]);
        }
        due("in one record", Talk.talks("a takes 1;a does 1").done(1, 0), 1);
    }

    private static void anothersDoes() {
        Talk.sentence("(another one's \"does\" does nothing)");
        AgreedTalks x = Talk.talks("a takes 1;b does 1", "b takes 1;a does 1", "b asks c for 1;c does 1", "b does 1");
        int[] want = {0, 0, 0, 1};
        for (int m = 0; m < want.length; m++) {
            due("done as of " + m, x.done(1, m), want[m]);
        }
    }

    private static void takenAnewIsNotDone() {
        Talk.sentence("what is taken anew is not DONE.");
        AgreedTalks x = Talk.talks("a takes 1;a does 1", "a takes 1", "a does 1;b takes 1", "b does 1;b drops 1;b takes 1");
        int[] want = {1, 0, 0, 0};
        for (int m = 0; m < want.length; m++) {
            due("done as of " + m, x.done(1, m), want[m]);
        }
        Talk.theirsAre(x, 0, 0);
        Talk.theirsAre(x, 0, 1, 1);
        Talk.theirsAre(x, 1, 3, 1);
    }

    private static void askedSince() {
        Talk.sentence("ASKED is a PERSON for a DEED, if somebody asked that PERSON for it, and the PERSON neither took nor "
            + "dropped it since.");
        AgreedTalks x = Talk.talks("b takes 1;b drops 1;a asks b for 1", "b takes 1", "c asks b for 1", "b drops 1",
            "b asks b for 1;a takes 1;a drops 1;b does 1", "b drops 1");
        int[] want = {1, 0, 1, 0, 1, 0};
        for (int m = 0; m < want.length; m++) {
            due("asked as of " + m, x.asked(1, 1, m), want[m]);
            due("who asks is not asked, as of " + m, x.asked(0, 1, m), 0);
            due("for another deed, as of " + m, x.asked(1, 2, m), 0);
        }
    }

    private static void lastWord() {
        Talk.sentence("The WORD of a PERSON on a CLAIM is the last LINE \"says\" or \"denies\" of it.");
        AgreedTalks x = Talk.talks("a says 1;a denies 1", "a says 1 as 2", "a denies 2", "b denies 1");
        int[] want = {0, 1, 1, 1};
        for (int m = 0; m < want.length; m++) {
            due("word as of " + m, x.word(0, 1, m), want[m]);
        }
        due("a ground is no word", x.word(0, 2, 1), -1);
        AgreedTalks y = Talk.talks("a says 1;a says 1 as 2", "a says 1 as 3;a says 3", "a says 1");
        due("the last one's grounds", y.stands(1, 0), 0);
        due("the last one's other grounds", y.stands(1, 1), 1);
        due("the last one without grounds", y.stands(1, 2), 1);
    }

    private static void noWordDenies() {
        Talk.sentence("A CLAIM STANDS, if no PERSON's WORD denies it");
        AgreedTalks x = Talk.talks("a says 1;l denies 1", "l says 1 as 9", "a denies 1;a says 1", "a denies 1", "a says 1");
        int[] want = {0, 1, 1, 0, 1};
        for (int m = 0; m < want.length; m++) {
            due("stands as of " + m, x.stands(1, m), want[m]);
        }
        due("denied by the first", Talk.talks("a denies 1;l says 1").stands(1, 0), 0);
        due("denied alone", Talk.talks("a denies 1").stands(1, 0), 0);
    }

    private static void somePersonSays() {
        Talk.sentence("for some PERSON whose WORD says it all CLAIMS behind \"as\"");
        AgreedTalks x = Talk.talks("a says 1 as 2 and 3;l says 1 as 4;a says 2", "l says 4", "l denies 4;l says 3");
        due("no one's grounds stand", x.stands(1, 0), 0);
        due("one's grounds stand", x.stands(1, 1), 1);
        due("the other one's grounds stand", x.stands(1, 2), 1);
        due("grounds of two do not add up", Talk.talks("a says 1 as 2 and 3;b says 1 as 4 and 5;a says 2;a says 4").stands(1, 0), 0);
        due("nobody says it", x.stands(5, 2), 0);
    }

    private static void groundsNoneAtOnce() {
        Talk.sentence("all CLAIMS behind \"as\" (none: at once) STAND");
        AgreedTalks x = Talk.talks("a says 0;l says 39;b says 1 as 0;c says 38 as 39 and 0 and 1");
        for (int claim : new int[] {0, 1, 38, 39}) {
            due("stands " + claim, x.stands(claim, 0), 1);
        }
        due("stands 2", x.stands(2, 0), 0);
    }

    private static void noRings() {
        Talk.sentence("each without leaning on itself in a ring");
        AgreedTalks x = Talk.talks("a says 1 as 1;a says 2 as 3;b says 3 as 2;a says 39 as 0;a says 0 as 38;a says 38 as 39",
            "c says 1;c says 3;c says 38", "c denies 1;c denies 3;c denies 38");
        for (int claim : new int[] {0, 1, 2, 3, 38, 39}) {
            due("in a ring " + claim, x.stands(claim, 0), 0);
            due("held from outside " + claim, x.stands(claim, 1), 1);
            due("denied " + claim, x.stands(claim, 2), 0);
        }
    }

    private static void fewestStand() {
        Talk.sentence("(as few STAND as can be so)");
        AgreedTalks x = Talk.talks("a says 1 as 2 and 3;a says 2 as 1;a says 3;a says 4 as 1;a says 5 as 3;a says 6 as 5 and 7");
        int[] want = {0, 0, 0, 1, 0, 1, 0, 0};
        for (int claim = 0; claim < want.length; claim++) {
            due("stands " + claim, x.stands(claim, 0), want[claim]);
        }
        // as of a MEETING asked for behind one in which they stood, nothing is left over
        AgreedTalks y = Talk.talks("a says 1;a says 2 as 1", "a says 1 as 2");
        due("stood", y.stands(1, 0), 1);
        due("leans on itself since", y.stands(1, 1), 0);
        due("and so does the other one", y.stands(2, 1), 0);
    }

    /** All 40 CLAIMS in a chain, from the high ones down and from the low ones up. */
    private static void longChains() {
        Talk.sentence("(as few STAND as can be so)");
        for (int step : new int[] {1, -1}) {
            int last = step == 1 ? 39 : 0;
            AgreedTalks x = Talk.talks(chain(0, 20, step), chain(20, 39, step), "a says " + last, "b denies " + last);
            for (int claim = 0; claim < 40; claim++) {
                due("without an end " + claim, x.stands(claim, 1), 0);
                due("with an end " + claim, x.stands(claim, 2), 1);
                due("with its end denied " + claim, x.stands(claim, 3), 0);
            }
        }
    }

    private static String chain(int from, int to, int step) {
        StringBuilder text = new StringBuilder();
        for (int i = from; i < to; i++) {
            int claim = step == 1 ? i : 39 - i;
            text.append(i == from ? "" : ";").append("a says").append(claim).append("as").append(claim + step);
        }
        return text.toString();
    }

    private static void settled() {
        Talk.sentence("It is SETTLED, if it STANDS, and of LINES \"open\", \"settled\" of it the last is \"settled\".");
        AgreedTalks x = Talk.talks("settled 1;a says 1", "open 1;settled 1", "settled 1;open 1", "settled 1", "open 2");
        int[] want = {2, 2, 1, 2, 2};
        for (int m = 0; m < want.length; m++) {
            due("state as of " + m, x.state(1, m), want[m]);
        }
        due("stands alone is neither", Talk.talks("a says 1").state(1, 0), 0);
        due("denied alone is neither", Talk.talks("a denies 1").state(1, 0), 0);
    }

    private static void open() {
        Talk.sentence("OPEN, if the last is \"open\", or it was \"settled\" and does not STAND.");
        AgreedTalks x = Talk.talks("open 1", "a says 1", "settled 1", "b denies 1", "b says 1 as 2", "a denies 1",
            "settled 1", "a says 1 as 2;b denies 1;b says 1 as 2");
        int[] want = {1, 1, 2, 1, 2, 1, 1, 1};
        for (int m = 0; m < want.length; m++) {
            due("state as of " + m, x.state(1, m), want[m]);
        }
        due("settled, of what nobody said", Talk.talks("settled 1").state(1, 0), 1);
        due("another claim", x.state(2, 7), 0);
    }

    private static void changes() {
        Talk.sentence("CHANGES of a PERSON on a CLAIM: how often a WORD on it came that was of the other kind than the one "
            + "ahead.");
        AgreedTalks x = Talk.talks("open 1;b denies 1;a says 2", "a denies 1", "a denies 1", "a says 1;a says 1 as 2",
            "a denies 1;a says 1", Talk.lines(10, "a denies1;a says1"));
        int[] want = {0, 0, 0, 1, 3, 23};
        for (int m = 0; m < want.length; m++) {
            due("changes as of " + m, x.changes(0, 1, m), want[m]);
        }
        due("of another one", x.changes(1, 1, 5), 0);
        due("on another claim", x.changes(0, 2, 5), 0);
        due("says first", Talk.talks("a says 1;a denies 1").changes(0, 1, 0), 1);
    }

    private static void theirsNotDone() {
        Talk.sentence("THEIRS: DEEDS of which a PERSON is HOLDER and that are not DONE");
        AgreedTalks x = Talk.talks("a takes 0;a takes 39;l takes 1;c asks b for 2", "b takes 39", "a does 0;b does 39",
            "b takes 39;l drops 1");
        Talk.theirsAre(x, 0, 0, 0, 39);
        Talk.theirsAre(x, 11, 0, 1);
        Talk.theirsAre(x, 1, 0);
        Talk.theirsAre(x, 0, 1, 0);
        Talk.theirsAre(x, 1, 1, 39);
        Talk.theirsAre(x, 0, 2);
        Talk.theirsAre(x, 1, 2);
        Talk.theirsAre(x, 1, 3, 39);
        Talk.theirsAre(x, 11, 3);
        all();
    }

    /** All 40 DEEDS are one PERSON's. */
    private static void all() {
        StringBuilder first = new StringBuilder("l takes0");
        StringBuilder second = new StringBuilder("l takes20by1");
        for (int deed = 1; deed < 20; deed++) {
            first.append(";l takes").append(deed);
            second.append(";l takes").append(deed + 20).append("by1");
        }
        AgreedTalks x = Talk.talks(first.toString(), second.toString());
        int[] want = new int[40];
        for (int i = 0; i < 40; i++) {
            want[i] = (i + 20) % 40;
        }
        Talk.theirsAre(x, 11, 1, want);
        due("late", x.late(11, 1), 20);
    }

    private static void theirsInOrder() {
        Talk.sentence("those DUE earlier first, those without a DAY last, of alike ones the lower DEED.");
        AgreedTalks x = Talk.talks("a takes 0;a takes 39;a takes 5 by 999;a takes 4 by 999;a takes 3 by 0;a takes 38 by 0;"
            + "a takes 7 by 10;a takes 6 by 9;a takes 1 by 100", "a takes 0 by 999;a takes 3");
        Talk.theirsAre(x, 0, 0, 3, 38, 6, 7, 1, 4, 5, 0, 39);
        Talk.theirsAre(x, 0, 1, 38, 6, 7, 1, 0, 4, 5, 3, 39);
    }

    private static void late() {
        Talk.sentence("LATE are those of them whose DAY is ahead of the DAY of the MEETING m.");
        AgreedTalks x = Talk.talks("a takes 0 by 9;a takes 1 by 10;a takes 39 by 11;a takes 2;b takes 3 by 0", "open 1",
            "a does 0;b does 3", "a takes 1;a takes 0 by 40;a drops 39");
        int[] want = {1, 3, 2, 0};
        for (int m = 0; m < want.length; m++) {
            due("late as of " + m, x.late(0, m), want[m]);
        }
        due("another one's", x.late(1, 0), 1);
        due("another one's, done", x.late(1, 2), 0);
        AgreedTalks y = new AgreedTalks();
        y.meeting(0);
        y.meeting(999);
        Talk.record(y, 0, "a takes 1 by 0;a takes 2 by 998;a takes 3 by 999;a takes 4");
        due("on day 0", y.late(0, 0), 0);
        due("on day 999", y.late(0, 1), 2);
    }

    private static void alikeInAllWords() {
        Talk.sentence("as they were read (alike in all their words and numbers");
        for (int i = 0; i < KINDS.length; i++) {
            for (int k = 0; k < KINDS.length; k++) {
                Talk.quarrelsAre(KINDS[i], KINDS[k], i == k ? 0 : 2);
            }
            Talk.quarrelsAre(KINDS[i], KINDS[i].replace("1", "0"), 2);
            Talk.quarrelsAre(KINDS[i], "   " + KINDS[i].replace("1", "01").replace(" ", "  ") + " ", 0);
        }
        for (String line : new String[] {"a asks b for 1", "a takes 1", "a drops 1", "a does 1", "a says 1", "a denies 1"}) {
            Talk.quarrelsAre(line, "l" + line.substring(1), 2);
        }
        Talk.quarrelsAre("a asks b for 1", "a asks a for 1", 2);
        Talk.quarrelsAre("a asks b for 1", "a asks b for 1 by 0", 2);
        Talk.quarrelsAre("a asks b for 1 by 7", "a asks b for 1 by 8", 2);
        Talk.quarrelsAre("a takes 1", "a takes 1 by 0", 2);
        Talk.quarrelsAre("a takes 1 by 999", "a takes 1 by 99", 2);
        Talk.quarrelsAre("a takes 1 by 99", "a takes 1 by 0099", 0);
    }

    private static void groundsAsSet() {
        Talk.sentence("CLAIMS behind \"as\" as a set");
        Talk.quarrelsAre("a says 1 as 2 and 3 and 39", "a says 1 as 39 and 3 and 2", 0);
        Talk.quarrelsAre("a says 1 as 2 and 2 and 2 and 2 and 2 and 2", "a says 1 as 2", 0);
        Talk.quarrelsAre("a says 1 as 2 and 3 and 2", "a says 1 as 3 and 2 and 3", 0);
        Talk.quarrelsAre("a says 1 as 2 and 3", "a says 1 as 2", 2);
        Talk.quarrelsAre("a says 1 as 0", "a says 1", 2);
        Talk.quarrelsAre("a says 1 as 32", "a says 1 as 0", 2);
        Talk.quarrelsAre("a says 1 as 39", "a says 1 as 7", 2);
        Talk.quarrelsAre("a says 1 as 2", "a says 2 as 1", 2);
    }

    private static void differencesSummed() {
        Talk.sentence("for each kind of LINE the difference of how often it stands in the one and in the other, summed.");
        Talk.quarrelsAre("open 1;open 2;open 3", "open 3;open 1;open 2", 0);
        Talk.quarrelsAre("open 1;open 1;open 2", "open 1;open 2;open 2", 2);
        Talk.quarrelsAre("open 1;open 1;open 1", "open 1", 2);
        Talk.quarrelsAre("open 1", "open 2;open 3", 3);
        Talk.quarrelsAre(Talk.lines(20, "open 1"), Talk.lines(20, "open 2"), 40);
        Talk.quarrelsAre(Talk.lines(20, "open 1"), "open 1", 19);
        Talk.quarrelsAre(Talk.lines(20, "open 1"), Talk.lines(7, "open 1"), 13);
        Talk.quarrelsAre(Talk.lines(20, "open 1"), "open 2", 21);
        Talk.quarrelsAre(Talk.lines(19, "open 1") + ";open 2", "open 2;" + Talk.lines(19, "open 1"), 0);
    }
}
