import java.util.Random;

/** All promises: made-up runs of at most 512 calls, each answer held against the model's. */
public final class ModelTest {
    private static final int RUNS = 1500;
    private static final int CALLS = 512;
    private static final String SIGNS = "!#$%&'()*+,-./:;<=>?@[\\]^_`{|}~";

    private final Check check = new Check();
    private final Random random = new Random(20261115);
    private final int[] reasonsSeen = new int[19];
    private int replaysSeen = 0;
    private BedMessages x;
    private Model model;
    private int calls;
    private int nextIdentity;
    private String separators;
    private int patients;
    private int beds;
    private int codes;
    private boolean measuresMuch;

    public static void main(String[] args) {
        ModelTest test = new ModelTest();
        for (int run = 0; run < RUNS; run++) {
            test.run();
        }
        for (int reason = 0; reason < test.reasonsSeen.length; reason++) {
            boolean isReason = reason < 7 || reason > 10;
            test.check.due("reason " + reason + " was seen", test.reasonsSeen[reason] >= 20, isReason);
        }
        System.out.println("reasons seen: " + java.util.Arrays.toString(test.reasonsSeen) + ", replays: " + test.replaysSeen);
        test.check.due("replays were seen", test.replaysSeen >= 100, true);
        test.check.finish();
    }

    private void run() {
        x = new BedMessages();
        model = new Model();
        calls = 0;
        nextIdentity = 0;
        separators = "|^~\\&";
        patients = pick(1, 3, 9, 99);
        beds = pick(1, 2, 4, 8);
        codes = pick(2, 4, 20);
        measuresMuch = below(3) == 0;
        while (calls < CALLS) {
            if (below(8) == 0) {
                separators = someSeparators();
            }
            if (below(4) > 0) {
                sendFrame(someFrame());
            }
            for (int asked = below(12); asked > 0; asked--) {
                askSomething();
            }
        }
    }

    private int below(int bound) {
        return random.nextInt(bound);
    }

    private int pick(int... choices) {
        return choices[below(choices.length)];
    }

    private String pick(String... choices) {
        return choices[below(choices.length)];
    }

    private String someSeparators() {
        StringBuilder five = new StringBuilder();
        while (five.length() < 5) {
            char c = SIGNS.charAt(below(SIGNS.length()));
            if (five.indexOf("" + c) < 0) {
                five.append(c);
            }
        }
        return five.toString();
    }

    private void sendFrame(String frame) {
        int at = 0;
        while (at < frame.length()) {
            int length = Math.min(below(10) == 0 ? 1 + below(8) : 8, frame.length() - at);
            type(Check.packed(frame.substring(at, at + length)));
            at += length;
            if (below(60) == 0) {
                type(random.nextLong());
            }
        }
        if (!mayCall()) {
            return;
        }
        int got = x.end();
        check.due("end() of " + Check.shown(frame), got, model.end());
        reasonsSeen[model.reason]++;
        replaysSeen += model.replayed ? 1 : 0;
        if (mayCall()) {
            check.due("reason() of " + Check.shown(frame), x.reason(), model.reason);
        }
        if (mayCall()) {
            check.due("replayed() of " + Check.shown(frame), x.replayed(), model.replayed);
        }
    }

    private boolean mayCall() {
        calls++;
        return calls <= CALLS;
    }

    private void type(long text) {
        if (mayCall()) {
            check.due("type(" + text + ")", x.type(text), model.type(text));
        }
    }

    /** Written with the usual separators first, and at times damaged afterwards. */
    private String someFrame() {
        String frame = "HDR" + separators + translated(someMessage());
        if (below(5) == 0) {
            frame = damaged(frame);
        }
        return frame.substring(0, Math.min(frame.length(), below(30) == 0 ? 205 : 200));
    }

    private String translated(String message) {
        StringBuilder text = new StringBuilder();
        for (char c : message.toCharArray()) {
            int place = "|^~\\&".indexOf(c);
            text.append(place < 0 ? c : separators.charAt(place));
        }
        return text.toString();
    }

    private String damaged(String frame) {
        StringBuilder text = new StringBuilder(frame);
        for (int times = 1 + below(2); times > 0 && text.length() > 0; times--) {
            int at = below(3) == 0 ? below(Math.min(9, text.length())) : below(text.length());
            String c = pick("" + separators.charAt(below(5)), "" + separators.charAt(3), "\r", "" + (char) (32 + below(95)));
            switch (below(3)) {
                case 0:
                    text.deleteCharAt(at);
                    break;
                case 1:
                    text.insert(at, c);
                    break;
                default:
                    text.replace(at, at + 1, c);
            }
        }
        return below(20) == 0 ? text.substring(0, below(text.length() + 1)) : text.toString();
    }

    private String someMessage() {
        String identity = "i" + (below(6) == 0 ? Math.max(0, nextIdentity - below(20)) : nextIdentity++);
        if (below(30) == 0) {
            identity = pick("", "toolong", "a.b", "\\X41\\b", "q&w^e~r", "\"\"");
        }
        String type = pick("ADT^A01", "ADT^A01", "ADT^A02", "ADT^A03", "ADT^A08", "ORU^R01", "ORU^R01", "ORU^R01");
        if (measuresMuch && below(2) == 0) {
            type = "ORU^R01";
        }
        if (below(25) == 0) {
            type = pick("ADT^R01", "ORU^A01", "ADT", "", "ADT&1^A08&2^3~4", "ADT~^A01");
        }
        StringBuilder message = new StringBuilder("|" + pick("", "LAB", someText()) + "|" + identity + "|" + type);
        message.append(below(20) == 0 ? "|" + someText() : "");
        if (below(30) > 0) {
            message.append("\rPID|" + somePatient() + pick("", "|", "|" + someName() + "^" + someName()));
        }
        if (type.startsWith("ADT^A01") || type.startsWith("ADT^A02") || below(8) == 0) {
            message.append(below(30) > 0 ? "\rPV1|" + someBed() : "");
        }
        int observations = type.startsWith("ORU") ? below(7) : below(10) == 0 ? below(8) : 0;
        for (int i = 0; i < observations; i++) {
            message.append("\rOBX|" + someCode() + "|" + someValues());
        }
        if (below(12) == 0) {
            message.append("\r" + pick("PID|" + somePatient(), "PV1|" + someBed(), "ZZ1", "ZZ2|", "HDR|" + someText()));
        }
        return message + pick("", "", "", "\r");
    }

    private String somePatient() {
        return below(30) == 0 ? pick("", "0", "07", "100", "x", "1&2^3~4") : "" + (1 + below(patients));
    }

    private String someBed() {
        return below(30) == 0 ? pick("", "A", "E^1", "A^8", "a^1", "AA^1", "A^11", "A&x^1&y^z~w")
                : pick("A", "B", "C", "D") + "^" + below(beds);
    }

    private String someCode() {
        return below(60) == 0 ? pick("", "a", "abc", "aB", "a1")
                : "" + (char) ('a' + below(codes)) + (char) ('a' + below(codes));
    }

    private String someValues() {
        StringBuilder values = new StringBuilder();
        for (int i = pick(0, 0, 0, 1, 2); i >= 0; i--) {
            String value = below(6) == 0 ? "\"\"" : "" + below(pick(10, 100, 10000));
            value = below(80) == 0 ? pick("", "x", "12345", "\"", "0007", "7&x^y") : value;
            values.append(value).append(i > 0 ? "~" : "");
        }
        return values.toString();
    }

    private String someName() {
        return pick("", "\"\"", "Doe", "Ann", "Abcdefghijkl", "Abcdefghijklm", someText());
    }

    private String someText() {
        StringBuilder text = new StringBuilder();
        for (int i = below(8); i > 0; i--) {
            String hex = String.format("\\X%02X\\", 32 + below(95));
            text.append(pick("" + (char) (32 + below(95)), "a", "~", "^", "&", "\\F\\", "\\S\\", "\\R\\", "\\E\\", "\\T\\", hex));
        }
        // a single ESCAPE or a further field comes by chance alone
        return below(10) == 0 ? text.toString() : text.toString().replace("|", "").replaceAll("\\\\(?![FSRETX])(?<!\\\\.{1,3}\\\\)", "");
    }

    private int near(int least, int most) {
        return least - 1 + below(most - least + 3);
    }

    private void askSomething() {
        if (!mayCall()) {
            return;
        }
        int p = below(4) == 0 ? near(1, 99) : near(1, patients);
        int i = below(3) == 0 ? near(0, 40) : below(6);
        switch (below(13)) {
            case 0:
                check.due("receiptLength()", x.receiptLength(), model.receipt.length());
                break;
            case 1:
                check.due("receipt(" + i + ")", x.receipt(i), model.receipt(i));
                break;
            case 2:
                int ward = near(0, 3);
                int bed = near(0, 7);
                check.due("patient(" + ward + ", " + bed + ")", x.patient(ward, bed), model.patient(ward, bed));
                break;
            case 3:
                check.due("bedOf(" + p + ")", x.bedOf(p), model.bedOf.getOrDefault(p, -1));
                break;
            case 4:
                check.due("inBeds()", x.inBeds(), model.bedOf.size());
                break;
            case 5:
                check.due("known(" + p + ")", x.known(p), model.names.containsKey(p));
                break;
            case 6:
                int part = near(1, 2);
                check.due("name(" + p + ", " + part + ", " + i + ")", x.name(p, part, i), model.name(p, part, i));
                break;
            case 7:
                char first = (char) ('a' + near(0, codes));
                char second = (char) ('a' + near(0, codes));
                check.due("result(" + p + ", " + first + ", " + second + ")", x.result(p, first, second), model.result(p, first, second));
                break;
            case 8:
                check.due("results(" + p + ")", x.results(p), model.results(p));
                break;
            case 9:
                check.due("segments()", x.segments(), model.segments());
                break;
            default:
                askAboutMessage();
        }
    }

    private void askAboutMessage() {
        switch (below(3)) {
            case 0:
                int s = near(1, Math.max(1, model.segments()));
                int field = near(0, 3);
                int repetition = below(3) == 0 ? near(1, 3) : 1;
                int component = below(3) == 0 ? near(1, 3) : 1;
                int i = below(4) == 0 ? near(0, 12) : below(3);
                check.due("text(" + s + ", " + field + ", " + repetition + ", " + component + ", " + i + ")",
                        x.text(s, field, repetition, component, i), model.text(s, field, repetition, component, i));
                break;
            case 1:
                String five = below(10) == 0 ? damagedSeparators() : someSeparators();
                check.due("write " + five, Check.write(x, five), model.write(five));
                break;
            default:
                int w = near(0, model.written.length());
                check.due("written(" + w + ")", x.written(w), model.written(w));
        }
    }

    private String damagedSeparators() {
        StringBuilder five = new StringBuilder(someSeparators());
        char wrong = (char) pick(below(128), below(65536), five.charAt(below(5)));
        five.setCharAt(below(5), wrong);
        return five.toString();
    }
}
