import java.nio.charset.StandardCharsets;
import java.util.ArrayList;
import java.util.List;
import java.util.Random;

/** Runs of 512 calls, drawn from fixed seeds, against the oracle. */
public final class OracleTest {
    private static final int RUNS = 400;
    private static final int CALLS = 512;
    /** No step makes more calls than these: 15 of feed, and end, record, fault and status. */
    private static final int CALLS_OF_STEP = 19;
    private static final int[] ODD = {-1, -2, 40, 12, 30, 1000, Integer.MIN_VALUE, Integer.MAX_VALUE};

    private final Random random;
    private final AgreedTalks talks = new AgreedTalks();
    private final Oracle oracle = new Oracle();
    /** Few people and things make LINES meet; many reach the edges. */
    private final int people;
    private final int things;
    private final int thingStep;
    /** Many MEETINGS and RECORDS of short texts, so that the room runs out. */
    private final boolean isCrowded;
    private int calls = 0;
    private int day = 0;

    private OracleTest(long seed) {
        random = new Random(seed);
        people = random.nextInt(3) == 0 ? 12 : 1 + random.nextInt(4);
        things = random.nextInt(3) == 0 ? 40 : 2 + random.nextInt(6);
        thingStep = things == 40 ? 1 : 1 + random.nextInt(5);
        isCrowded = random.nextInt(4) == 0;
    }

    public static void main(String[] args) {
        for (int seed = 0; seed < RUNS && Talk.wrongs() == 0; seed++) {
            OracleTest run = new OracleTest(seed);
            while (run.calls < CALLS && Talk.wrongs() == 0) {
                if (run.calls + CALLS_OF_STEP <= CALLS) {
                    run.step();
                } else {
                    run.ask(run.random.nextInt(15));
                }
            }
            if (Talk.wrongs() != 0) {
                System.out.println("in the run of seed " + seed + ", call " + run.calls);
            }
        }
        Talk.close("OracleTest");
    }

    private void due(String call, int got, int want) {
        calls++;
        Talk.due(call, got, want);
    }

    private int number(int bound) {
        return random.nextInt(25) == 0 ? ODD[random.nextInt(ODD.length)] : random.nextInt(Math.max(1, bound));
    }

    private int person() {
        return number(people);
    }

    private int thing() {
        return random.nextInt(25) == 0 ? number(40) : thingStep * random.nextInt(things);
    }

    private int meetingNumber() {
        return number(oracle.count(0));
    }

    private void step() {
        int kind = random.nextInt(100);
        if (kind < (isCrowded ? 12 : 5) || oracle.count(0) == 0) {
            addMeeting();
        } else if (kind < (isCrowded ? 45 : 22)) {
            addRecord();
        } else if (kind < (isCrowded ? 47 : 25)) {
            shiftTape();
        } else {
            ask(random.nextInt(15));
        }
    }

    private void addMeeting() {
        int next = random.nextInt(6) == 0 ? number(1000) : Math.min(999, day + random.nextInt(30));
        day = next >= 0 && next < 1000 ? Math.max(day, Math.min(next, day + 30)) : day;
        due("meeting(" + next + ")", talks.meeting(next), oracle.meeting(next));
        due("status()", talks.status(), oracle.status());
    }

    private void shiftTape() {
        int n = number(oracle.count(3) + 2);
        due("end(" + n + ")", talks.end(n), oracle.end(n));
        if (random.nextInt(3) == 0) {
            feed("open 1".getBytes(StandardCharsets.ISO_8859_1), 0);
        }
        due("count(3)", talks.count(3), oracle.count(3));
    }

    private void feed(byte[] bytes, int from) {
        byte[] piece = new byte[20];
        System.arraycopy(bytes, from, piece, 0, Math.min(20, bytes.length - from));
        int[] n = Talk.numbers(piece);
        due("feed", talks.feed(n[0], n[1], n[2], n[3], n[4]), oracle.feed(piece));
    }

    private void addRecord() {
        String text = text();
        byte[] bytes = text.getBytes(StandardCharsets.ISO_8859_1);
        int held = oracle.count(3);
        for (int from = 0; from < bytes.length; from += 20) {
            feed(bytes, from);
        }
        int length = held + bytes.length;
        due("end(" + length + ")", talks.end(length), oracle.end(length));
        int meeting = meetingNumber();
        due("record(" + meeting + ") of '" + text + "'", talks.record(meeting), oracle.record(meeting));
        due("fault() of '" + text + "'", talks.fault(), oracle.fault());
        due("status()", talks.status(), oracle.status());
    }

    private String text() {
        List<String> tokens = new ArrayList<>();
        int most = isCrowded ? 2 : 12;
        int lines = random.nextInt(12) == 0 ? 19 + random.nextInt(4) : 1 + random.nextInt(most);
        for (int i = 0; i < lines; i++) {
            if (i > 0) {
                tokens.add(";");
            }
            addLine(tokens, lines > 12);
        }
        if (random.nextInt(5) == 0) {
            spoil(tokens);
        }
        StringBuilder text = new StringBuilder(blanks());
        for (int i = 0; i < tokens.size(); i++) {
            text.append(tokens.get(i));
            boolean touch = i + 1 == tokens.size() || !sameKind(tokens.get(i), tokens.get(i + 1));
            text.append(touch && random.nextInt(lines > 12 ? 1 : 3) == 0 ? "" : " " + blanks());
        }
        if (text.length() > 300) {
            text.setLength(300);
        }
        if (random.nextInt(20) == 0) {
            text.setCharAt(random.nextInt(text.length()), (char) random.nextInt(256));
        }
        return text.toString();
    }

    private static boolean sameKind(String left, String right) {
        char l = left.charAt(left.length() - 1);
        char r = right.charAt(0);
        return Character.isLetter(l) && Character.isLetter(r) || Character.isDigit(l) && Character.isDigit(r);
    }

    private String blanks() {
        return random.nextInt(10) == 0 ? " ".repeat(random.nextInt(4)) : "";
    }

    private String someone() {
        return "" + (char) ('a' + random.nextInt(people));
    }

    private String some() {
        String zeros = random.nextInt(30) == 0 ? "00" : "";
        return zeros + thingStep * random.nextInt(things);
    }

    private void addLine(List<String> tokens, boolean isShort) {
        int kind = isShort ? 9 + random.nextInt(2) : random.nextInt(11);
        if (kind >= 9) {
            tokens.addAll(List.of(kind == 9 ? "open" : "settled", some()));
            return;
        }
        tokens.add(someone());
        if (kind < 2) {
            tokens.addAll(List.of("asks", someone(), "for", some()));
            addDay(tokens);
        } else if (kind < 4) {
            tokens.addAll(List.of("takes", some()));
            addDay(tokens);
        } else if (kind < 8) {
            String[] verbs = {"drops", "does", "denies", "says"};
            tokens.addAll(List.of(verbs[kind - 4], some()));
        } else {
            tokens.addAll(List.of("says", some(), "as", some()));
            for (int i = random.nextInt(random.nextInt(8) == 0 ? 7 : 3); i > 0; i--) {
                tokens.addAll(List.of("and", some()));
            }
        }
    }

    private void addDay(List<String> tokens) {
        if (random.nextInt(2) == 0) {
            tokens.addAll(List.of("by", "" + Math.min(999, random.nextInt(8) == 0 ? 999 : day + random.nextInt(40))));
        }
    }

    private void spoil(List<String> tokens) {
        String[] odd = {"m", "40", "1000", ";", "and", "as", "by", "asks", "x", "?", "a", "3", "open", "settled", "for",
            "thing", "end", "person", "99999999999", "A", "\u0000", "\u00ff", "\n"};
        int at = random.nextInt(tokens.size());
        switch (random.nextInt(3)) {
            case 0:
                tokens.remove(at);
                break;
            case 1:
                tokens.add(at, odd[random.nextInt(odd.length)]);
                break;
            default:
                tokens.set(at, odd[random.nextInt(odd.length)]);
                break;
        }
    }

    private void ask(int kind) {
        int p = person();
        int t = thing();
        int m = meetingNumber();
        int i = number(8) - 1;
        int r = number(oracle.count(1) + 1);
        String of = "(" + p + ", " + t + ", " + m + ")";
        switch (kind) {
            case 0: due("holder" + of, talks.holder(t, m), oracle.holder(t, m)); break;
            case 1: due("due" + of, talks.due(t, m), oracle.due(t, m)); break;
            case 2: due("done" + of, talks.done(t, m), oracle.done(t, m)); break;
            case 3: due("asked" + of, talks.asked(p, t, m), oracle.asked(p, t, m)); break;
            case 4: due("word" + of, talks.word(p, t, m), oracle.word(p, t, m)); break;
            case 5: due("stands" + of, talks.stands(t, m), oracle.stands(t, m)); break;
            case 6: due("state" + of, talks.state(t, m), oracle.state(t, m)); break;
            case 7: due("changes" + of, talks.changes(p, t, m), oracle.changes(p, t, m)); break;
            case 8: due("theirs" + of + i, talks.theirs(p, m, i), oracle.theirs(p, m, i)); break;
            case 9: due("late" + of, talks.late(p, m), oracle.late(p, m)); break;
            case 10: due("quarrels(" + r + ")", talks.quarrels(r), oracle.quarrels(r)); break;
            case 11: due("turned" + of, talks.turned(m, t), oracle.turned(m, t)); break;
            case 12: due("turned" + of, talks.turned(m, i), oracle.turned(m, i)); break;
            case 13: due("of(" + r + ", " + i + ")", talks.of(r, i), oracle.of(r, i)); break;
            default: due("count(" + i + ")", talks.count(i), oracle.count(i)); break;
        }
    }
}
