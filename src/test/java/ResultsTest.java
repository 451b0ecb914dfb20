/** Promises 13 and 14: result and results. */
public final class ResultsTest {
    private static int sent = 0;

    public static void main(String[] args) {
        Check check = new Check();
        values(check);
        wrongCodes(check);
        stayWhenLeaving(check);
        ofEachPatient(check);
        everyCode(check);
        check.finish();
    }

    private static int send(BedMessages x, String type, String segments) {
        sent++;
        return Check.send(x, Check.HEAD + "r" + sent + "|" + type + segments);
    }

    private static void values(Check check) {
        BedMessages x = new BedMessages();
        send(x, "ADT^A01", "\rPID|5\rPV1|A^0");
        check.due("results(5)", x.results(5), 0);
        send(x, "ORU^R01", "\rPID|5\rOBX|ab|12~13~9\rOBX|cd|\"\"\rOBX|zz|0007");
        check.due("ab", x.result(5, 'a', 'b'), 9);
        check.due("cd", x.result(5, 'c', 'd'), BedMessages.NONE);
        check.due("zz", x.result(5, 'z', 'z'), 7);
        check.due("results(5)", x.results(5), 2);
        send(x, "ORU^R01", "\rPID|5\rOBX|ab|9999\rOBX|aa|0\rOBX|ab|1~\"\"~2");
        check.due("ab", x.result(5, 'a', 'b'), 2);
        check.due("aa", x.result(5, 'a', 'a'), 0);
        check.due("results(5)", x.results(5), 3);
        send(x, "ORU^R01", "\rPID|5\rOBX|ab|5~\"\"\rPID|6\rXXX|1\rOBX|zz|9999&8^7|6");
        check.due("ab", x.result(5, 'a', 'b'), BedMessages.NONE);
        check.due("zz", x.result(5, 'z', 'z'), 9999);
        check.due("aa", x.result(5, 'a', 'a'), 0);
        check.due("results(5)", x.results(5), 2);
        check.due("the letters the other way round", x.result(5, 'b', 'a'), BedMessages.NONE);
    }

    private static BedMessages withFourCodes() {
        BedMessages x = new BedMessages();
        send(x, "ADT^A01", "\rPID|5\rPV1|A^0");
        send(x, "ORU^R01", "\rPID|5\rOBX|aa|1\rOBX|ba|2\rOBX|az|3\rOBX|zz|4");
        return x;
    }

    private static void wrongCodes(Check check) {
        char[] wrong = {'A', 'Z', '`', '{', '0', ' ', 0, 'a' + 256, 0xFFFF, 'a' + 26};
        for (char w : wrong) {
            BedMessages x = withFourCodes();
            for (char good = 'a'; good <= 'z'; good++) {
                check.due("result(5, " + (int) w + ", " + good + ")", x.result(5, w, good), BedMessages.NONE);
                check.due("result(5, " + good + ", " + (int) w + ")", x.result(5, good, w), BedMessages.NONE);
            }
        }
        BedMessages x = withFourCodes();
        for (int patient : new int[] {-1, 0, 4, 6, 100, Integer.MAX_VALUE, Integer.MIN_VALUE}) {
            check.due("result(" + patient + ", a, a)", x.result(patient, 'a', 'a'), BedMessages.NONE);
            check.due("results(" + patient + ")", x.results(patient), 0);
        }
    }

    private static void stayWhenLeaving(Check check) {
        BedMessages x = new BedMessages();
        send(x, "ADT^A01", "\rPID|5\rPV1|A^0");
        send(x, "ORU^R01", "\rPID|5\rOBX|aa|1");
        send(x, "ADT^A03", "\rPID|5");
        check.due("aa", x.result(5, 'a', 'a'), 1);
        check.due("results(5)", x.results(5), 1);
        check.due("result out of bed", send(x, "ORU^R01", "\rPID|5\rOBX|aa|2"), BedMessages.ERROR);
        send(x, "ADT^A01", "\rPID|5\rPV1|A^1\rOBX|aa|3");
        check.due("aa", x.result(5, 'a', 'a'), 1);
        send(x, "ADT^A02", "\rPID|5\rPV1|A^2");
        check.due("aa", x.result(5, 'a', 'a'), 1);
    }

    private static void ofEachPatient(Check check) {
        BedMessages x = new BedMessages();
        send(x, "ADT^A01", "\rPID|5\rPV1|A^0");
        send(x, "ADT^A01", "\rPID|50\rPV1|A^1");
        send(x, "ORU^R01", "\rPID|5\rOBX|aa|1\rOBX|ab|2");
        send(x, "ORU^R01", "\rPID|50\rOBX|aa|3");
        check.due("aa of 5", x.result(5, 'a', 'a'), 1);
        check.due("aa of 50", x.result(50, 'a', 'a'), 3);
        check.due("results(5)", x.results(5), 2);
        check.due("results(50)", x.results(50), 1);
    }

    private static void everyCode(Check check) {
        for (int code = 0; code < 26 * 26; code++) {
            char first = (char) ('a' + code / 26);
            char second = (char) ('a' + code % 26);
            BedMessages x = new BedMessages();
            send(x, "ADT^A01", "\rPID|5\rPV1|A^0");
            send(x, "ORU^R01", "\rPID|5\rOBX|" + first + second + "|" + code);
            // an object is asked at most 512 times: every second code, from another one on each time
            for (int other = code % 2; other < 26 * 26; other += 2) {
                int answer = x.result(5, (char) ('a' + other / 26), (char) ('a' + other % 26));
                check.due("code " + other + " beside " + code, answer, other == code ? code : BedMessages.NONE);
            }
        }
    }
}
