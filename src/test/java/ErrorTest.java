/** Promises 3 and 4: the reasons 11 to 18, which of them comes first, and that an error changes nothing. */
public final class ErrorTest {
    private static final int ACCEPTED = BedMessages.ACCEPTED;
    private static final int ERROR = BedMessages.ERROR;
    private static int sent = 0;

    public static void main(String[] args) {
        Check check = new Check();
        patients(check);
        beds(check);
        inBedOrNot(check);
        notKnown(check);
        wrongResults(check);
        tooManyCodes(check);
        firstReasonCounts(check);
        check.finish();
    }

    private static String head(String type) {
        sent++;
        return Check.HEAD + "n" + sent + "|" + type;
    }

    private static void patients(Check check) {
        for (String field : new String[] {"", "0", "00", "01", "05", "100", "1a", "a1", "a", " 1", "1 ", "-1", "+1", "1.",
            "^1", "~1", "&1", "\"\"", "\\X30\\1", "/1", "1:"}) {
            for (String type : new String[] {"ADT^A01", "ADT^A02", "ADT^A03", "ADT^A08", "ORU^R01"}) {
                String frame = head(type) + "\rPID|" + field + "\rPV1|A^1\rOBX|ab|1";
                check.dueReceipt(new BedMessages(), frame, ERROR, 11);
            }
        }
        check.dueReceipt(new BedMessages(), head("ADT^A01") + "\rPID\rPV1|A^1", ERROR, 11);
        check.dueReceipt(new BedMessages(), head("ADT^A01") + "\rPV1|A^1", ERROR, 11);
        check.dueReceipt(new BedMessages(), head("ADT^A01") + "\rPV1|A^1\rPIE|1", ERROR, 11);
        // the first one counts, also when it is wrong
        check.dueReceipt(new BedMessages(), head("ADT^A01") + "\rPID\rPID|1\rPV1|A^1", ERROR, 11);
        BedMessages x = new BedMessages();
        check.dueReceipt(x, head("ADT^A01") + "\rPV1|A^1\rPID|1\rPID|2", ACCEPTED, 0);
        check.due("known(1)", x.known(1), true);
        check.due("known(2)", x.known(2), false);
        for (int patient = 1; patient <= 99; patient++) {
            BedMessages y = new BedMessages();
            check.dueReceipt(y, Check.admit("m", patient, "A^1"), ACCEPTED, 0);
            check.due("patient(0, 1)", y.patient(0, 1), patient);
        }
        check.dueReceipt(new BedMessages(), head("ADT^A01") + "\rPID|1&x^y~z\rPV1|A&^1&2^x~D^9", ACCEPTED, 0);
    }

    private static void beds(Check check) {
        for (String field : new String[] {"", "A", "A^", "^1", "E^1", "a^1", "@^1", "AA^1", "A^8", "A^9", "A^10", "A^01",
            "A^a", "A^ 1", "A1", "A&1", "A~1", "A^/", "A^-1", "\"\"^1", "A^\"\"", "A^^1", " ^1", "AB^1"}) {
            check.dueReceipt(new BedMessages(), head("ADT^A01") + "\rPID|1\rPV1|" + field, ERROR, 12);
            check.dueReceipt(new BedMessages(), head("ADT^A02") + "\rPID|1\rPV1|" + field, ERROR, 12);
        }
        for (String type : new String[] {"ADT^A01", "ADT^A02"}) {
            check.dueReceipt(new BedMessages(), head(type) + "\rPID|1", ERROR, 12);
            check.dueReceipt(new BedMessages(), head(type) + "\rPID|1\rPV1", ERROR, 12);
            check.dueReceipt(new BedMessages(), head(type) + "\rPID|1\rPV1\rPV1|A^1", ERROR, 12);
        }
        BedMessages x = new BedMessages();
        check.dueReceipt(x, head("ADT^A01") + "\rPV1|C^5\rPID|1\rPV1|A^1", ACCEPTED, 0);
        check.due("bedOf(1)", x.bedOf(1), 21);
    }

    private static void inBedOrNot(Check check) {
        BedMessages x = new BedMessages();
        check.dueReceipt(x, head("ADT^A02") + "\rPID|1\rPV1|A^1", ERROR, 13);
        check.dueReceipt(x, head("ADT^A03") + "\rPID|1", ERROR, 13);
        check.dueReceipt(x, head("ORU^R01") + "\rPID|1\rOBX|ab|1", ERROR, 13);
        check.dueReceipt(x, head("ADT^A01") + "\rPID|1\rPV1|A^1", ACCEPTED, 0);
        check.dueReceipt(x, head("ADT^A01") + "\rPID|1\rPV1|A^2", ERROR, 14);
        check.dueReceipt(x, head("ADT^A01") + "\rPID|1\rPV1|A^1", ERROR, 14);
        check.dueReceipt(x, head("ADT^A01") + "\rPID|2\rPV1|A^1", ERROR, 15);
        check.dueReceipt(x, head("ADT^A02") + "\rPID|1\rPV1|A^1", ERROR, 15);
        check.due("known(2) after an error", x.known(2), false);
        check.due("inBeds() after errors", x.inBeds(), 1);
        check.dueReceipt(x, head("ADT^A01") + "\rPID|2\rPV1|A^2", ACCEPTED, 0);
        check.dueReceipt(x, head("ADT^A02") + "\rPID|1\rPV1|A^2", ERROR, 15);
        check.due("bedOf(1) after errors", x.bedOf(1), 1);
        check.dueReceipt(x, head("ADT^A03") + "\rPID|1", ACCEPTED, 0);
        check.dueReceipt(x, head("ADT^A02") + "\rPID|1\rPV1|A^3", ERROR, 13);
        check.dueReceipt(x, head("ADT^A03") + "\rPID|1", ERROR, 13);
        check.dueReceipt(x, head("ORU^R01") + "\rPID|1\rOBX|ab|1", ERROR, 13);
        check.dueReceipt(x, head("ADT^A01") + "\rPID|1\rPV1|A^2", ERROR, 15);
        check.dueReceipt(x, head("ADT^A01") + "\rPID|1\rPV1|A^1", ACCEPTED, 0);
    }

    private static void notKnown(Check check) {
        BedMessages x = new BedMessages();
        check.dueReceipt(x, head("ADT^A08") + "\rPID|1|A^B", ERROR, 16);
        check.due("known(1)", x.known(1), false);
        check.dueReceipt(x, head("ADT^A01") + "\rPID|1\rPV1|A^1", ACCEPTED, 0);
        check.due("name kept by an error", Check.nameText(x, 1, 1), "");
        check.dueReceipt(x, head("ADT^A08") + "\rPID|1|A^B", ACCEPTED, 0);
        check.dueReceipt(x, head("ADT^A03") + "\rPID|1", ACCEPTED, 0);
        check.dueReceipt(x, head("ADT^A08") + "\rPID|1|C", ACCEPTED, 0);
        check.dueReceipt(x, head("ADT^A08") + "\rPID|2|C", ERROR, 16);
    }

    private static BedMessages withOneInBed() {
        BedMessages x = new BedMessages();
        Check.send(x, head("ADT^A01") + "\rPID|1\rPV1|A^1");
        return x;
    }

    private static void wrongResults(Check check) {
        BedMessages x = withOneInBed();
        check.dueReceipt(x, head("ORU^R01") + "\rPID|1", ERROR, 17);
        for (String fields : new String[] {"", "|", "|ab", "|ab|", "||1", "|a|1", "|abc|1", "|aB|1", "|Ab|1", "|a1|1",
            "|a |1", "|^ab|1", "|~ab|1", "|ab|12345", "|ab|a", "|ab|1a", "|ab|-1", "|ab| 1", "|ab|\"", "|ab|\"\"\"",
            "|ab|1~", "|ab|~1", "|ab|1~~2", "|ab|1~2~x", "|ab|^1", "|ab|1~^2", "|ab|&1", "|ab|\"\"1", "|`b|1", "|a{|1",
            "|ab|/", "|ab|:"}) {
            x = withOneInBed();
            String frame = head("ORU^R01") + "\rPID|1\rOBX|zz|1\rOBX" + fields;
            check.dueReceipt(x, frame, ERROR, 17);
            frame = head("ORU^R01") + "\rPID|1\rOBX" + fields + "\rOBX|zz|1";
            check.dueReceipt(x, frame, ERROR, 17);
            check.due("results(1) after errors", x.results(1), 0);
        }
        for (String fields : new String[] {"|ab|0", "|ab|9999", "|ab|0000", "|ab|\"\"", "|ab|1~\"\"~2", "|ab&X^Y~Z|1&x^y",
            "|ab|1^x~2&y|z", "|\\X61\\b|\\X31\\", "|ab|\\X22\\\"", "|ab|7|~~"}) {
            check.dueReceipt(x, head("ORU^R01") + "\rPID|1\rOBX" + fields, ACCEPTED, 0);
        }
        check.dueReceipt(x, head("ORU^R01") + "\rOBX|ab|1\rPID|1", ACCEPTED, 0);
        aLongerMessageBefore(check);
    }

    /** What stood behind the end of a shorter message in a longer one before is not looked at. */
    private static void aLongerMessageBefore(Check check) {
        BedMessages x = withOneInBed();
        for (int i = 0; i < 3; i++) {
            Check.send(x, head("ORU^R01") + "\rPID|1\rOBX|ab|" + "~".repeat(50));
        }
        for (int i = 0; i < 3; i++) {
            check.dueReceipt(x, head("ORU^R01") + "\rPID|1\rOBX|ab|7", ACCEPTED, 0);
            check.due("value", x.result(1, 'a', 'b'), 7);
        }
    }

    private static String results(String... codesAndValues) {
        StringBuilder frame = new StringBuilder(head("ORU^R01") + "\rPID|1");
        for (String pair : codesAndValues) {
            frame.append("\rOBX|").append(pair);
        }
        return frame.toString();
    }

    private static void tooManyCodes(Check check) {
        BedMessages x = new BedMessages();
        Check.send(x, head("ADT^A01") + "\rPID|1\rPV1|A^1");
        check.dueReceipt(x, results("aa|1", "ab|2", "ac|3", "ad|4", "ae|5", "af|6"), ACCEPTED, 0);
        check.dueReceipt(x, results("ba|1", "bb|2", "bc|3", "bd|4", "be|5"), ACCEPTED, 0);
        check.dueReceipt(x, results("aa|9", "ca|1", "cb|2"), ERROR, 18);
        check.due("results(1) after 18", x.results(1), 11);
        check.due("value after 18", x.result(1, 'a', 'a'), 1);
        check.due("new code after 18", x.result(1, 'c', 'a'), BedMessages.NONE);
        check.dueReceipt(x, results("ca|1", "cb|2", "aa|\"\""), ERROR, 18);
        check.dueReceipt(x, results("ca|1", "cb|1~\"\""), ERROR, 18);
        check.dueReceipt(x, results("ca|1~\"\"", "cb|1~\"\"", "cc|1~\"\""), ACCEPTED, 0);
        check.due("results(1)", x.results(1), 11);
        check.dueReceipt(x, results("ca|1"), ACCEPTED, 0);
        check.due("results(1)", x.results(1), 12);
        check.dueReceipt(x, results("cb|1~\"\""), ERROR, 18);
        check.dueReceipt(x, results("cb|\"\"~1"), ERROR, 18);
        check.dueReceipt(x, results("cb|\"\"~\"\""), ACCEPTED, 0);
        check.dueReceipt(x, results("ca|5~6", "aa|7"), ACCEPTED, 0);
        check.dueReceipt(x, results("aa|\"\"", "cb|1~2~3"), ACCEPTED, 0);
        check.due("results(1)", x.results(1), 12);
        check.due("taken away", x.result(1, 'a', 'a'), BedMessages.NONE);
        check.due("new code", x.result(1, 'c', 'b'), 3);
    }

    private static void firstReasonCounts(Check check) {
        BedMessages x = new BedMessages();
        check.dueReceipt(x, head("ADT^A01") + "\rPID|x\rPV1|x", ERROR, 11);
        check.dueReceipt(x, head("ADT^A02") + "\rPID|1\rPV1|x", ERROR, 12);
        check.dueReceipt(x, head("ORU^R01") + "\rPID|1\rOBX|x", ERROR, 13);
        Check.send(x, Check.admit("q1", 1, "A^1"));
        Check.send(x, Check.admit("q2", 2, "A^2"));
        check.dueReceipt(x, head("ADT^A01") + "\rPID|1\rPV1|x", ERROR, 12);
        check.dueReceipt(x, head("ADT^A01") + "\rPID|1\rPV1|A^2", ERROR, 14);
        check.dueReceipt(x, head("ADT^A02") + "\rPID|3\rPV1|A^2", ERROR, 13);
        // what the type does not ask for is not looked at
        check.dueReceipt(x, head("ADT^A03") + "\rPID|1\rPV1|x\rOBX|x", ACCEPTED, 0);
        check.dueReceipt(x, head("ADT^A08") + "\rPID|2\rPV1|x\rOBX|x", ACCEPTED, 0);
        check.dueReceipt(x, head("ORU^R01") + "\rPID|2\rPV1|x\rOBX|ab|1", ACCEPTED, 0);
        Check.send(x, results("aa|1"));
        String[] twelve = new String[6];
        for (int round = 0; round < 2; round++) {
            for (int i = 0; i < 6; i++) {
                twelve[i] = "" + (char) ('p' + round) + (char) ('a' + i) + "|1";
            }
            check.dueReceipt(x, results(twelve).replace("PID|1", "PID|2"), round == 0 ? ACCEPTED : ERROR, round == 0 ? 0 : 18);
        }
        twelve[5] = "qf|x";
        check.dueReceipt(x, results(twelve).replace("PID|1", "PID|2"), ERROR, 17);
    }
}
