/**
 * Terms, the reasons 6 and 11 to 18, sentence by sentence: the last message that is carried out, the
 * first that is not, and that one that is not changes nothing about beds, names and results.
 */
public final class ReasonEdgesTest {
    private static final Story BUSY = Story.busy();
    private static final String[] TYPES = {"ADT^A01", "ADT^A02", "ADT^A03", "ADT^A08", "ORU^R01"};

    private final Check check = new Check();
    private final String busyWard = BUSY.wardState();

    public static void main(String[] args) {
        ReasonEdgesTest test = new ReasonEdgesTest();
        test.types();
        test.partsThatAreMeant();
        test.noPatientSegment();
        test.patientNumbers();
        test.noBedSegment();
        test.bedTexts();
        test.inNoBed();
        test.inBed();
        test.bedIsTaken();
        test.notKnown();
        test.noResultSegment();
        test.codes();
        test.values();
        test.everyRepetition();
        test.twelveCodes();
        test.moreAtSomeTime();
        test.firstReasonCounts();
        test.check.finish();
    }

    private static String frame(String type, String segments) {
        return Check.HEAD + "id|" + type + segments;
    }

    private Story accepted(Story before, String frame) {
        Story story = before.send(frame);
        check.due("end() of " + Check.shown(frame), story.lastAnswer(), BedMessages.ACCEPTED);
        check.due("reason() of " + Check.shown(frame), story.tell().reason(), 0);
        return story;
    }

    /** The reason is this one, nothing is done, and what was written is as it was. */
    private Story notDone(Story before, String ward, String frame, int reason) {
        String shown = Check.shown(frame);
        Story story = before.send(frame);
        check.due("end() of " + shown, story.lastAnswer(), reason == 6 ? BedMessages.REJECTED : BedMessages.ERROR);
        check.due("reason() of " + shown, story.tell().reason(), reason);
        check.due("replayed() of " + shown, story.tell().replayed(), false);
        check.same("beds after " + shown, story.wardState(), ward);
        check.same("written after " + shown, story.writtenState(), before.writtenState());
        check.due("room after " + shown, story.room(), 200);
        // only an error is remembered
        BedMessages again = story.send(Check.HEAD + "id|ASK").tell();
        check.due("replayed() again after " + shown, again.replayed(), reason != 6);
        check.due("reason() again after " + shown, again.reason(), reason);
        return story;
    }

    private void busyNotDone(String frame, int reason) {
        notDone(BUSY, busyWard, frame, reason);
    }

    private void types() {
        check.about("REJECTED 6: field 3 of the header is not a TYPE: component 1 ADT with component 2 A01, A02, A03 or A08,"
                + " or component 1 ORU with component 2 R01.");
        accepted(BUSY, frame("ADT^A01", "\rPID|3\rPV1|A^2"));
        accepted(BUSY, frame("ADT^A02", "\rPID|1\rPV1|A^2"));
        accepted(BUSY, frame("ADT^A03", "\rPID|1"));
        accepted(BUSY, frame("ADT^A08", "\rPID|1"));
        accepted(BUSY, frame("ORU^R01", "\rPID|1\rOBX|aa|1"));
        for (String type : new String[] {"", "ADT", "ADT^", "^A01", "ADT^A00", "ADT^A04", "ADT^A07", "ADT^A09", "ADT^A0",
            "ADT^A011", "ADT^A01 ", "ADT^ A01", "ADT^B01", "ADT^@01", "ADT^A11", "ADT^a01", "adt^A01", "ADS^A01", "ADU^A01",
            "AD^A01", "ADTT^A01", "ORU^A01", "ORU^A08", "ADT^R01", "ORU^R00", "ORU^R02", "ORU^R0", "ORU^R011", "ORT^R01",
            "ORV^R01", "OR^R01", "ORU", "\"\"^\"\"", "ADT\\S\\A01", "ADTA01", "A01^ADT"}) {
            busyNotDone(frame(type, "\rPID|1\rPV1|A^2\rOBX|aa|1"), 6);
        }
        busyNotDone(Check.HEAD + "id", 6);
    }

    private void partsThatAreMeant() {
        check.about("(For texts of fields, here and below, repetition 1, component 1 and sub 1 are meant if nothing else is"
                + " said; other parts may have anything in them.)");
        accepted(BUSY, frame("ADT&0^A01&0^0~ORU^R09&^", "\rPID|3&0^0~4|x\rPV1|A&B^2&3^4~E^9|x"));
        accepted(BUSY, frame("ORU^R01", "\rPID|1\rOBX|aa&A^A~A|1&A^A|A~A"));
        busyNotDone(frame("&ADT^A01", "\rPID|3\rPV1|A^2"), 6);
        busyNotDone(frame("ADT^&A01", "\rPID|3\rPV1|A^2"), 6);
        busyNotDone(frame("~ADT^A01", "\rPID|3\rPV1|A^2"), 6);
        busyNotDone(frame("ADT~^A01", "\rPID|3\rPV1|A^2"), 6);
        busyNotDone(frame("ADT^A01", "\rPID|&3\rPV1|A^2"), 11);
        busyNotDone(frame("ADT^A01", "\rPID|^3\rPV1|A^2"), 11);
        busyNotDone(frame("ADT^A01", "\rPID|~3\rPV1|A^2"), 11);
        busyNotDone(frame("ADT^A01", "\rPID||3\rPV1|A^2"), 11);
        busyNotDone(frame("ADT^A01", "\rPID|3\rPV1|&A^2"), 12);
        busyNotDone(frame("ADT^A01", "\rPID|3\rPV1|A^&2"), 12);
        busyNotDone(frame("ADT^A01", "\rPID|3\rPV1|~A^2"), 12);
        busyNotDone(frame("ADT^A01", "\rPID|3\rPV1|A~^2"), 12);
        busyNotDone(frame("ADT^A01", "\rPID|3\rPV1||A^2"), 12);
        busyNotDone(frame("ORU^R01", "\rPID|1\rOBX|&aa|1"), 17);
        busyNotDone(frame("ORU^R01", "\rPID|1\rOBX|^aa|1"), 17);
        busyNotDone(frame("ORU^R01", "\rPID|1\rOBX|~aa|1"), 17);
        busyNotDone(frame("ORU^R01", "\rPID|1\rOBX|aa|&1"), 17);
        busyNotDone(frame("ORU^R01", "\rPID|1\rOBX|aa|^1"), 17);
    }

    private void noPatientSegment() {
        check.about("ERROR 11: there is no segment PID (the first one with this name counts)");
        for (String type : TYPES) {
            busyNotDone(frame(type, ""), 11);
            busyNotDone(frame(type, "\rPV1|A^2\rOBX|aa|1"), 11);
            busyNotDone(frame(type, "\rPIC|1\rPIE|1\rPJD|1\rQID|1\rPV1|A^2\rOBX|aa|1"), 11);
            busyNotDone(frame(type, "\rPID\rPID|1\rPV1|A^2\rOBX|aa|1"), 11);
            busyNotDone(frame(type, "\rPID|x\rPV1|A^2\rOBX|aa|1\rPID|1"), 11);
        }
        BedMessages x = accepted(BUSY, frame("ADT^A01", "\rPIC|5\rPV1|A^2\rPID|3\rPID|4\rPID|x")).tell();
        check.due("known(3)", x.known(3), true);
        check.due("known(4)", x.known(4), false);
        check.due("known(5)", x.known(5), false);
        // as the last of eight segments
        accepted(BUSY, frame("ADT^A03", "\rABC\rABC\rABC\rABC\rABC\rABC\rPID|1"));
    }

    private void patientNumbers() {
        check.about("its field 1 is not a PATIENT: a number 1 .. 99 in one or two digits, not beginning with 0.");
        for (int patient : new int[] {3, 9, 10, 11, 19, 90, 98, 99}) {
            BedMessages x = accepted(BUSY, frame("ADT^A01", "\rPID|" + patient + "\rPV1|A^2")).tell();
            check.due("patient in A 2", x.patient(0, 2), patient);
        }
        BedMessages one = accepted(new Story(), frame("ADT^A01", "\rPID|1\rPV1|A^2")).tell();
        check.due("patient in A 2", one.patient(0, 2), 1);
        for (String number : new String[] {"", "0", "00", "01", "09", "001", "010", "099", "100", "101", "199", "999", "1000",
            "/", ":", "1/", "1:", "/1", ":1", "-1", "+1", "1 ", " 1", "1.", "a", "1a", "\"\"", "\\X30\\", "\\X30\\1"}) {
            for (String type : TYPES) {
                busyNotDone(frame(type, "\rPID|" + number + "\rPV1|A^2\rOBX|aa|1"), 11);
            }
        }
    }

    private void noBedSegment() {
        check.about("12, for A01 and A02: there is no segment PV1 (the first counts)");
        for (String of : new String[] {"ADT^A01|\rPID|3", "ADT^A02|\rPID|1"}) {
            String begin = Check.HEAD + "id|" + of;
            busyNotDone(begin, 12);
            busyNotDone(begin + "\rPV0|A^2\rPV2|A^2\rPU1|A^2\rQV1|A^2", 12);
            busyNotDone(begin + "\rPV1\rPV1|A^2", 12);
            busyNotDone(begin + "\rPV1|x\rPV1|A^2", 12);
            BedMessages x = accepted(BUSY, begin + "\rPV2|C^1\rPV1|A^2\rPV1|A^3\rPV1|x").tell();
            check.due("in A 2", x.patient(0, 2) > 0, true);
            check.due("in A 3", x.patient(0, 3), 0);
        }
        // the other types do not ask for a bed
        for (String bed : new String[] {"", "\rPV1", "\rPV1|x", "\rPV1|B^2", "\rPV1|A^1"}) {
            accepted(BUSY, frame("ADT^A03", "\rPID|1" + bed));
            accepted(BUSY, frame("ADT^A08", "\rPID|1" + bed));
            accepted(BUSY, frame("ORU^R01", "\rPID|1" + bed + "\rOBX|aa|1"));
        }
    }

    private void bedTexts() {
        check.about("its field 1 is not a BED: component 1 one letter A .. D, component 2 one digit 0 .. 7.");
        String[] good = {"A^0", "A^7", "B^0", "B^3", "C^7", "D^0", "D^7", "\\X44\\^\\X37\\"};
        int[] beds = {0, 7, 8, 11, 23, 24, 31, 31};
        for (int i = 0; i < good.length; i++) {
            BedMessages admitted = accepted(BUSY, frame("ADT^A01", "\rPID|3\rPV1|" + good[i])).tell();
            check.due("bedOf(3) in " + good[i], admitted.bedOf(3), beds[i]);
            BedMessages moved = accepted(BUSY, frame("ADT^A02", "\rPID|1\rPV1|" + good[i])).tell();
            check.due("bedOf(1) in " + good[i], moved.bedOf(1), beds[i]);
        }
        for (String bed : new String[] {"", "^", "@^0", "E^0", "a^0", "d^0", "0^0", "A^/", "A^8", "A^9", "A^:", "A^-", "A^A",
            "A^", "^0", "A", "AA^0", "AB^0", "A^00", "A^07", "A^10", "A ^0", " A^0", "A^ 0", "A^0 ", "A0", "\"\"^0", "A^\"\"",
            "A&0", "A~0", "A^^0", "B^", "B^/", "B^8", "B^x", "D^", "D^8", "D^9", "D^:", "E^7", "@^8", "C^-1"}) {
            busyNotDone(frame("ADT^A01", "\rPID|3\rPV1|" + bed), 12);
            busyNotDone(frame("ADT^A02", "\rPID|1\rPV1|" + bed), 12);
        }
    }

    private void inNoBed() {
        check.about("13, for A02, A03 and R01: the patient is in no bed.");
        Story left = BUSY.send(Check.HEAD + "l1|ADT^A03\rPID|1");
        String leftWard = left.wardState();
        String[] frames = {frame("ADT^A02", "\rPID|1\rPV1|A^2"), frame("ADT^A03", "\rPID|1"), frame("ORU^R01", "\rPID|1\rOBX|aa|1")};
        for (String frame : frames) {
            accepted(BUSY, frame);
            notDone(left, leftWard, frame, 13);
            // nor is one who was never known
            busyNotDone(frame.replace("PID|1", "PID|3"), 13);
        }
        notDone(left, leftWard, frame("ADT^A02", "\rPID|1\rPV1|A^1"), 13);
        accepted(left, frame("ADT^A08", "\rPID|1"));
        accepted(left, frame("ADT^A01", "\rPID|1\rPV1|A^1"));
    }

    private void inBed() {
        check.about("14, for A01: the patient is in a bed.");
        busyNotDone(frame("ADT^A01", "\rPID|1|Poe^Eve\rPV1|A^2"), 14);
        busyNotDone(frame("ADT^A01", "\rPID|1|Poe^Eve\rPV1|A^1"), 14);
        busyNotDone(frame("ADT^A01", "\rPID|1|Poe^Eve\rPV1|B^2"), 14);
        accepted(BUSY, frame("ADT^A01", "\rPID|3\rPV1|A^2"));
        accepted(BUSY.send(Check.HEAD + "l1|ADT^A03\rPID|1"), frame("ADT^A01", "\rPID|1\rPV1|A^2"));
    }

    private void bedIsTaken() {
        check.about("15, for A01 and A02: another patient is in the bed, or, for A02, the patient itself.");
        busyNotDone(frame("ADT^A01", "\rPID|3|Poe^Eve\rPV1|A^1"), 15);
        busyNotDone(frame("ADT^A02", "\rPID|1\rPV1|B^2"), 15);
        busyNotDone(frame("ADT^A02", "\rPID|1\rPV1|A^1"), 15);
        for (String free : new String[] {"A^0", "A^2", "B^1", "B^3"}) {
            accepted(BUSY, frame("ADT^A01", "\rPID|3\rPV1|" + free));
            accepted(BUSY, frame("ADT^A02", "\rPID|1\rPV1|" + free));
        }
        // a bed that was left is free
        Story left = BUSY.send(Check.HEAD + "l1|ADT^A03\rPID|1");
        accepted(left, frame("ADT^A01", "\rPID|3\rPV1|A^1"));
        accepted(left, frame("ADT^A02", "\rPID|2\rPV1|A^1"));
        Story moved = BUSY.send(Check.HEAD + "l1|ADT^A02\rPID|1\rPV1|A^2");
        accepted(moved, frame("ADT^A01", "\rPID|3\rPV1|A^1"));
        accepted(moved, frame("ADT^A02", "\rPID|1\rPV1|A^1"));
        notDone(moved, moved.wardState(), frame("ADT^A01", "\rPID|3\rPV1|A^2"), 15);
    }

    private void notKnown() {
        check.about("16, for A08: the patient is not KNOWN.");
        busyNotDone(frame("ADT^A08", "\rPID|3|Poe^Eve"), 16);
        busyNotDone(frame("ADT^A08", "\rPID|99|Poe^Eve"), 16);
        accepted(BUSY, frame("ADT^A08", "\rPID|1|Poe^Eve"));
        accepted(BUSY.send(Check.HEAD + "l1|ADT^A03\rPID|1"), frame("ADT^A08", "\rPID|1|Poe^Eve"));
        // a message in error makes nobody known
        Story error = BUSY.send(Check.HEAD + "l1|ADT^A01\rPID|3|Poe^Eve\rPV1|A^1");
        notDone(error, busyWard, frame("ADT^A08", "\rPID|3|Poe^Eve"), 16);
    }

    private void noResultSegment() {
        check.about("17, for R01: there is no segment OBX, or one of them is wrong");
        busyNotDone(frame("ORU^R01", "\rPID|1"), 17);
        busyNotDone(frame("ORU^R01", "\rPID|1\rOBW|aa|1\rOBY|aa|1\rOAX|aa|1\rPBX|aa|1"), 17);
        accepted(BUSY, frame("ORU^R01", "\rPID|1\rOBX|aa|1"));
        accepted(BUSY, frame("ORU^R01", "\rOBX|aa|1\rPID|1"));
        String six = "\rOBX|aa|1\rOBX|ba|1\rOBX|ca|1\rOBX|da|1\rOBX|ea|1\rOBX|fa|1";
        accepted(BUSY, frame("ORU^R01", "\rPID|1" + six));
        for (char wrong = 'a'; wrong <= 'f'; wrong++) {
            busyNotDone(frame("ORU^R01", "\rPID|1" + six.replace("OBX|" + wrong + "a|1", "OBX|" + wrong + "a|x")), 17);
            busyNotDone(frame("ORU^R01", "\rPID|1" + six.replace("OBX|" + wrong + "a|1", "OBX")), 17);
        }
        // the other types do not look at it
        accepted(BUSY, frame("ADT^A03", "\rPID|1\rOBX"));
        accepted(BUSY, frame("ADT^A08", "\rPID|1\rOBX|x|x"));
    }

    private void codes() {
        check.about("its field 1 is not two small letters (the CODE)");
        for (String code : new String[] {"aa", "az", "za", "zz", "mn"}) {
            BedMessages x = accepted(BUSY, frame("ORU^R01", "\rPID|1\rOBX|" + code + "|5")).tell();
            check.due("result of " + code, x.result(1, code.charAt(0), code.charAt(1)), 5);
        }
        for (String code : new String[] {"", "a", "aaa", "`a", "a`", "{a", "a{", "Aa", "aA", "Za", "aZ", "0a", "a0", "a ", " a",
            "\"\"", "a\\F\\"}) {
            busyNotDone(frame("ORU^R01", "\rPID|1\rOBX|" + code + "|5"), 17);
            busyNotDone(frame("ORU^R01", "\rPID|1\rOBX|" + code + "|\"\""), 17);
        }
    }

    private void values() {
        check.about("a VALUE: one to four digits, or two characters \" (the NULL).");
        String[] good = {"0", "9", "00", "10", "99", "000", "100", "999", "0000", "0001", "1000", "9999"};
        for (String value : good) {
            BedMessages x = accepted(BUSY, frame("ORU^R01", "\rPID|1\rOBX|ab|" + value)).tell();
            check.due("result of " + value, x.result(1, 'a', 'b'), Integer.parseInt(value));
            check.due("results(1)", x.results(1), 2);
        }
        BedMessages x = accepted(BUSY, frame("ORU^R01", "\rPID|1\rOBX|ab|\"\"")).tell();
        check.due("result of NULL", x.result(1, 'a', 'b'), BedMessages.NONE);
        for (String value : new String[] {"", "00000", "10000", "99999", "12345", "/", ":", "1/", "1:", "123:", "/123", "-1", "+1",
            "1 ", " 1", "1.5", "a", "1a", "\"", "\"\"\"", "\"\" ", "\"1", "\"1\"", "1\"\"", "''", "\\F\\"}) {
            busyNotDone(frame("ORU^R01", "\rPID|1\rOBX|ab|" + value), 17);
        }
        busyNotDone(frame("ORU^R01", "\rPID|1\rOBX|ab"), 17);
    }

    private void everyRepetition() {
        check.about("or one of the repetitions of its field 2 (component 1) is not a VALUE");
        BedMessages x = accepted(BUSY, frame("ORU^R01", "\rPID|1\rOBX|ab|1~2^x~\"\"~3&x^y")).tell();
        check.due("last repetition", x.result(1, 'a', 'b'), 3);
        // what comes behind field 2, or is another part of it, is not looked at
        for (String values : new String[] {"7|~x", "6~7|x~y", "6&x~7", "6^x~7", "6&x^y&z~7&x^y|z~"}) {
            BedMessages y = accepted(BUSY, frame("ORU^R01", "\rPID|1\rOBX|ab|" + values + "\rABC|x~y")).tell();
            check.due("last of " + values, y.result(1, 'a', 'b'), 7);
        }
        for (String values : new String[] {"6&x~y", "6^x~y", "6&~", "~1", "1~", "1~~2", "x~1~2", "1~x~2", "1~2~x", "12345~1", "1~12345", "\"~1", "1~\"",
            "1~^2", "1~&2", "~", "1~2~", "1~\"\"\""}) {
            busyNotDone(frame("ORU^R01", "\rPID|1\rOBX|ab|" + values), 17);
        }
    }

    private static String results(String letters, String value) {
        StringBuilder segments = new StringBuilder("\rPID|1");
        for (char letter : letters.toCharArray()) {
            segments.append("\rOBX|k").append(letter).append('|').append(value);
        }
        return segments.toString();
    }

    /** Patient 1 has so many codes: ab and cd, and ka, kb .. */
    private static Story withCodes(int many) {
        String letters = "abcdefghijklmnopq".substring(0, many - 2);
        Story story = BUSY;
        for (int at = 0; at < letters.length(); at += 5) {
            String five = letters.substring(at, Math.min(at + 5, letters.length()));
            story = story.send(Check.HEAD + "c" + at + "|ORU^R01" + results(five, "5"));
        }
        return story;
    }

    private void twelveCodes() {
        check.about("18, for R01: if all were done in order, the patient would have more than 12 codes at some time.");
        for (int before = 10; before <= 12; before++) {
            Story story = withCodes(before);
            String ward = story.wardState();
            check.due("results(1)", story.tell().results(1), before);
            for (int more = 1; more <= 4; more++) {
                String frame = frame("ORU^R01", results("wxyz".substring(0, more), "8"));
                if (before + more <= 12) {
                    BedMessages x = accepted(story, frame).tell();
                    check.due("results(1)", x.results(1), before + more);
                    check.due("the last code", x.result(1, 'k', "wxyz".charAt(more - 1)), 8);
                } else {
                    notDone(story, ward, frame, 18);
                }
            }
            // a code that is there needs no room, and another patient's are counted for that one
            accepted(story, frame("ORU^R01", "\rPID|1\rOBX|ab|1~2~3\rOBX|cd|4"));
            accepted(story, frame("ORU^R01", "\rPID|2\rOBX|xx|1\rOBX|xy|4\rOBX|xz|4"));
        }
    }

    private void moreAtSomeTime() {
        Story full = withCodes(12);
        String ward = full.wardState();
        notDone(full, ward, frame("ORU^R01", "\rPID|1\rOBX|xx|1~\"\""), 18);
        notDone(full, ward, frame("ORU^R01", "\rPID|1\rOBX|xx|\"\"~1"), 18);
        notDone(full, ward, frame("ORU^R01", "\rPID|1\rOBX|xx|1\rOBX|ab|\"\""), 18);
        notDone(full, ward, frame("ORU^R01", "\rPID|1\rOBX|ab|\"\"\rOBX|xx|1\rOBX|xy|1\rOBX|cd|\"\""), 18);
        notDone(full, ward, frame("ORU^R01", "\rPID|1\rOBX|ab|\"\"~1\rOBX|xx|1"), 18);
        BedMessages x = accepted(full, frame("ORU^R01", "\rPID|1\rOBX|ab|\"\"\rOBX|xx|1~\"\"\rOBX|xy|2")).tell();
        check.due("results(1)", x.results(1), 12);
        check.due("new code", x.result(1, 'x', 'y'), 2);
        check.due("taken away", x.result(1, 'a', 'b'), BedMessages.NONE);
        // taking away one that is not there is done even when there is no room
        Story same = accepted(full, frame("ORU^R01", "\rPID|1\rOBX|xx|\"\"~\"\""));
        check.same("beds after taking away nothing", same.wardState(), ward);
    }

    private void firstReasonCounts() {
        check.about("RECEIPTS are ACCEPTED, ERROR or REJECTED, with a REASON; the first of these that is so:");
        busyNotDone(frame("X", "\rPID|x\rPV1|x"), 6);
        busyNotDone(frame("ADT^A01", "\rPID|x\rPV1|x"), 11);
        busyNotDone(frame("ADT^A02", "\rPID|x\rPV1|x"), 11);
        busyNotDone(frame("ORU^R01", "\rPID|x\rOBX|x"), 11);
        busyNotDone(frame("ADT^A02", "\rPID|3\rPV1|x"), 12);
        busyNotDone(frame("ADT^A01", "\rPID|1\rPV1|x"), 12);
        busyNotDone(frame("ADT^A02", "\rPID|3\rPV1|B^2"), 13);
        busyNotDone(frame("ORU^R01", "\rPID|3\rOBX|x"), 13);
        busyNotDone(frame("ORU^R01", "\rPID|3"), 13);
        busyNotDone(frame("ADT^A01", "\rPID|1\rPV1|B^2"), 14);
        busyNotDone(frame("ADT^A01", "\rPID|1\rPV1|A^1"), 14);
        Story full = withCodes(12);
        String ward = full.wardState();
        notDone(full, ward, frame("ORU^R01", "\rPID|1\rOBX|xx|1\rOBX|xy|x"), 17);
        notDone(full, ward, frame("ORU^R01", "\rPID|1\rOBX|xx|1\rOBX|x|1"), 17);
        notDone(full, ward, frame("ORU^R01", "\rPID|1\rOBX|xx|1~x"), 17);
        notDone(full, ward, frame("ORU^R01", "\rPID|3\rOBX|xx|1"), 13);
    }
}
