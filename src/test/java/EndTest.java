/** Promises 3 and 4, end and reason: each reason, which of several comes first, and the edges. */
public final class EndTest {
    private static final int REJECTED = BedMessages.REJECTED;
    private static final int ERROR = BedMessages.ERROR;
    private static final String EIGHT = "\rA00\rB00\rC00\rD00\rE00\rF00\rG00";

    public static void main(String[] args) {
        Check check = new Check();
        noHeader(check);
        wrongSeparators(check);
        everySeparator(check);
        malformedNames(check);
        malformedEscapes(check);
        goodEscapes(check);
        tooManySegments(check);
        identities(check);
        types(check);
        nextFrameIsEmpty(check);
        check.finish();
    }

    private static void rejected(Check check, String frame, int reason) {
        check.dueReceipt(new BedMessages(), frame, REJECTED, reason);
    }

    private static void noHeader(Check check) {
        for (String frame : new String[] {"", "H", "HD", "\r", "\rHDR|^~\\&||a|ADT^A08", "hdr|^~\\&", "XHDR",
            "HDX|^~\\&||a|ADT^A08", "XDR|^~\\&||a|ADT^A08", "HXR|^~\\&||a|ADT^A08", " HDR|^~\\&", "PID|1"}) {
            rejected(check, frame, 1);
        }
    }

    private static void wrongSeparators(Check check) {
        for (String frame : new String[] {"HDR", "HDR\r", "HDR|^~\\", "HDR|^~\\\r&", "HDR|^~\\\rPID|1",
            "HDR\r|^~\\&", "HDR|^~|&|a", "HDR|^~\\||a", "HDR|^^\\&|a", "HDR||~\\&|a", "HDR|^~&&", "HDR|^~\\a||i",
            "HDRA^~\\&", "HDR|0~\\&", "HDR|^~\\\"||a", "HDR|^ \\&||a", "HDR ^~\\&"}) {
            rejected(check, frame, 2);
        }
    }

    private static void everySeparator(Check check) {
        for (int place = 0; place < 5; place++) {
            for (char c = 32; c <= 126; c++) {
                char[] five = "|^~\\&".toCharArray();
                boolean taken = "|^~\\&".indexOf(c) >= 0 && five[place] != c;
                five[place] = c;
                boolean good = !taken && c != ' ' && c != '"' && !Character.isLetterOrDigit(c);
                BedMessages x = new BedMessages();
                String frame = "HDR" + new String(five) + five[0] + five[0] + "id" + five[0] + "ADT" + five[1] + "A08";
                check.dueReceipt(x, frame, good ? ERROR : REJECTED, good ? 11 : 2);
            }
        }
    }

    private static void malformedNames(Check check) {
        String head = Check.HEAD + "id|ADT^A08";
        for (String more : new String[] {"\r\r", "\r\rPID|1", "\rPID|1\r\r", "\rP", "\rPI", "\rPI|1", "\rpID|1",
            "\rPiD|1", "\rPId|1", "\r1ID|1", "\rP D|1", "\rPIDX|1", "\rPID1", "\rPID^1", "\rPID~", "\rPID&",
            "\rPID\\F\\1", "\r|PID", "\r\\X50\\ID|1", "\rPID \r", "\rP[D", "\rP@D", "\rPI/", "\rPI:"}) {
            rejected(check, head + more, 3);
        }
        for (String behind : new String[] {"x", "^", "~", "\\", "&", "\\F\\", " ", "1|", "x\r"}) {
            rejected(check, "HDR|^~\\&" + behind, 3);
        }
        for (String more : new String[] {"", "\r", "\rPID", "\rPID\r", "\rPID|", "\rP12|x", "\rZZ9", "\rHDR|x", "\rA09"}) {
            check.dueReceipt(new BedMessages(), head + more, ERROR, 11);
        }
        rejected(check, "HDR|^~\\&", 5);
        rejected(check, "HDR|^~\\&\r", 5);
        rejected(check, "HDR|^~\\&|", 5);
    }

    private static void malformedEscapes(Check check) {
        String[] wrong = {"\\", "\\\\", "\\F", "\\F|", "\\Q\\", "\\f\\", "\\FF\\", "\\ \\", "\\X\\", "\\X4\\", "\\X41",
            "\\X411\\", "\\X4a\\", "\\X4G\\", "\\X1F\\", "\\X7F\\", "\\XFF\\", "\\X00\\", "\\X0D\\", "\\x41\\", "\\X4",
            "\\F\r\\", "\\X4\r1\\", "\\F&", "\\X 41\\", "a\\b", "\\F\\\\", "\\X41|", "\\A\\", "\\G\\", "\\X:0\\",
            "\\X@0\\", "\\X/0\\", "\\X-1\\"};
        for (String text : wrong) {
            rejected(check, Check.HEAD + "id|ADT^A08\rPID|1|" + text, 3);
            rejected(check, Check.HEAD + "id|ADT^A08^~&" + text + "\rPID|1", 3);
            rejected(check, "HDR|^~\\&|" + text + "|id|ADT^A08\rPID|1", 3);
        }
    }

    private static void goodEscapes(Check check) {
        String[][] good = {{"\\F\\", "|"}, {"\\S\\", "^"}, {"\\R\\", "~"}, {"\\E\\", "\\"}, {"\\T\\", "&"},
            {"\\X20\\", " "}, {"\\X7E\\", "~"}, {"\\X0\\", null}, {"\\X4F\\\\X4B\\", "OK"}, {"a\\E\\b", "a\\b"},
            {"\\E\\\\E\\", "\\\\"}, {"\\X5C\\F\\X5C\\", "\\F\\"}, {"\\X7C\\", "|"}};
        for (String[] pair : good) {
            BedMessages x = new BedMessages();
            String frame = Check.HEAD + "id|ADT^A08\rPID|1|" + pair[0];
            if (pair[1] == null) {
                rejected(check, frame, 3);
            } else {
                check.dueReceipt(x, frame, ERROR, 16);
                check.due("text of " + pair[0], Check.partText(x, 2, 2, 1, 1), pair[1]);
            }
        }
        for (int c = 0; c < 256; c++) {
            String frame = Check.HEAD + "id|ADT^A08\rPID|1|" + String.format("\\X%02X\\", c);
            boolean stands = c >= 32 && c <= 126;
            BedMessages x = new BedMessages();
            check.dueReceipt(x, frame, stands ? ERROR : REJECTED, stands ? 16 : 3);
            check.due("text of " + frame, x.text(2, 2, 1, 1, 0), stands ? c : BedMessages.NONE);
        }
    }

    private static void tooManySegments(Check check) {
        check.dueReceipt(new BedMessages(), Check.HEAD + "id|ADT^A08" + EIGHT, ERROR, 11);
        check.dueReceipt(new BedMessages(), Check.HEAD + "id|ADT^A08" + EIGHT + "\r", ERROR, 11);
        rejected(check, Check.HEAD + "id|ADT^A08" + EIGHT + "\rH00", 4);
        rejected(check, Check.HEAD + "id|ADT^A08" + EIGHT + "\rH00\r", 4);
        rejected(check, Check.HEAD + "id|ADT^A08" + EIGHT + EIGHT + EIGHT + EIGHT + EIGHT, 4);
        // malformed comes before too many, too many before no identity
        rejected(check, Check.HEAD + "id|ADT^A08" + EIGHT + "\r\r", 3);
        rejected(check, Check.HEAD + "id|ADT^A08" + EIGHT + "\rH00\rI00|\\", 3);
        rejected(check, Check.HEAD + "id|ADT^A08" + EIGHT + "\rH00\ri00", 3);
        rejected(check, Check.HEAD + "|ADT^A08" + EIGHT + "\rH00", 4);
    }

    private static void identities(Check check) {
        for (String identity : new String[] {"", "abcdefg", "a-", "a b", " a", "\"\"", "^a", "~a", "&a", "\\F\\",
            "ab\\X20\\", "a_", "a@", "[", "`", "{", "/", ":"}) {
            rejected(check, Check.HEAD + identity + "|ADT^A08\rPID|1", 5);
        }
        for (String identity : new String[] {"a", "Z", "0", "abcdef", "ABCxyz", "123456", "a\\X42\\c", "z9",
            "\\X61\\\\X62\\\\X63\\\\X64\\\\X65\\\\X66\\"}) {
            check.dueReceipt(new BedMessages(), Check.HEAD + identity + "|ADT^A08\rPID|1", ERROR, 16);
        }
        rejected(check, "HDR|^~\\&|only", 5);
        rejected(check, "HDR|^~\\&|a||ADT^A08\rPID|1", 5);
        // other parts of the field may have anything in them
        check.dueReceipt(new BedMessages(), Check.HEAD + "id&-^-~-|ADT^A08\rPID|1", ERROR, 16);
    }

    private static void types(Check check) {
        for (String type : new String[] {"", "ADT", "ADT^", "^A01", "ADT^A04", "ADT^A1", "ADT^A011", "ADT^a01",
            "adt^A01", "ADTX^A01", "AD^A01", "ORU^A01", "ADT^R01", "ORU^R02", "ORU", "ADT~^A01", "ADT&A01", "A01^ADT",
            "ADT^^A01", "\"\"^A01", "ADT^A00", "ADT^A09", "ADT^&A01"}) {
            rejected(check, Check.HEAD + "id|" + type + "\rPID|1\rPV1|A^1", 6);
        }
        rejected(check, Check.HEAD + "id", 6);
        for (String type : new String[] {"ADT^A01", "ADT^A02", "ADT^A03", "ADT^A08", "ORU^R01", "ADT&x^A01&y^z~q|w",
            "\\X41\\DT^A0\\X31\\"}) {
            check.dueReceipt(new BedMessages(), Check.HEAD + "id|" + type, ERROR, 11);
        }
    }

    private static void nextFrameIsEmpty(Check check) {
        BedMessages x = new BedMessages();
        check.dueReceipt(x, "X", REJECTED, 1);
        check.dueReceipt(x, Check.HEAD + "a|ADT^A08", ERROR, 11);
        check.dueReceipt(x, "", REJECTED, 1);
        check.dueReceipt(x, "HDR", REJECTED, 2);
        check.dueReceipt(x, Check.HEAD + "b|ADT^A08\r\r", REJECTED, 3);
        check.dueReceipt(x, Check.HEAD + "c|ADT", REJECTED, 6);
        check.dueReceipt(x, Check.admit("d", 1, "A^0"), BedMessages.ACCEPTED, 0);
        check.dueReceipt(x, "", REJECTED, 1);
    }
}
