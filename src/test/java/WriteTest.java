/** Promises 17 and 18: write and written. */
public final class WriteTest {
    public static void main(String[] args) {
        Check check = new Check();
        anew(check);
        shapesStay(check);
        escapesForTheseAlone(check);
        refused(check);
        everySeparator(check);
        whatWasWrittenStays(check);
        theLongest(check);
        check.finish();
    }

    private static void dueWritten(Check check, String frame, String separators, String want) {
        BedMessages x = new BedMessages();
        Check.send(x, frame);
        check.due("write of " + Check.shown(frame), Check.write(x, separators), want.length());
        check.due("written of " + Check.shown(frame), Check.writtenText(x), want);
        check.due("written behind the end", x.written(want.length()), BedMessages.NONE);
        check.due("written(-1)", x.written(-1), BedMessages.NONE);
        check.due("written(MAX)", x.written(Integer.MAX_VALUE), BedMessages.NONE);
        check.due("written(MIN)", x.written(Integer.MIN_VALUE), BedMessages.NONE);
    }

    private static void anew(Check check) {
        dueWritten(check, "HDR|^~\\&|LAB|m1|ADT^A01\rPID|7|DOE^Ann\rPV1|B^3", "#!*+-",
                "HDR#!*+-#LAB#m1#ADT!A01\rPID#7#DOE!Ann\rPV1#B!3");
        dueWritten(check, "HDR|^~\\&|LAB|m1|ADT^A01\rPID|7|DOE^Ann\rPV1|B^3", "|^~\\&",
                "HDR|^~\\&|LAB|m1|ADT^A01\rPID|7|DOE^Ann\rPV1|B^3");
        dueWritten(check, "HDR|^~\\&|LAB|m1|ADT^A01\rPID|7|DOE^Ann\rPV1|B^3", "&\\~^|",
                "HDR&\\~^|&LAB&m1&ADT\\A01\rPID&7&DOE\\Ann\rPV1&B\\3");
    }

    private static void shapesStay(Check check) {
        dueWritten(check, "HDR|^~\\&||a\r", "#!*+-", "HDR#!*+-##a");
        dueWritten(check, "HDR|^~\\&||a|\rAAA\rBBB|\rCCC||\r", "#!*+-", "HDR#!*+-##a#\rAAA\rBBB#\rCCC##");
        dueWritten(check, "HDR|^~\\&|~^&|a|^^~~&&\rAAA|^|~|&|x~^&|||", "#!*+-",
                "HDR#!*+-#*!-#a#!!**--\rAAA#!#*#-#x*!-###");
    }

    private static void escapesForTheseAlone(Check check) {
        dueWritten(check, "HDR|^~\\&|\\F\\\\S\\\\R\\\\E\\\\T\\|a|#!*+-", "#!*+-",
                "HDR#!*+-#|^~\\&#a#+F++S++R++E++T+");
        dueWritten(check, "HDR|^~\\&|\\F\\\\S\\\\R\\\\E\\\\T\\|a|#!*+-", "|^~\\&",
                "HDR|^~\\&|\\F\\\\S\\\\R\\\\E\\\\T\\|a|#!*+-");
        dueWritten(check, "HDR|^~\\&|\\X41\\\\X7C\\\\X20\\|a\\X62\\|\\X5C\\\\X22\\", "|^~\\&",
                "HDR|^~\\&|A\\F\\ |ab|\\E\\\"");
        dueWritten(check, "HDR|^~\\&|\\F\\\\S\\|a|\\R\\", "^|\\~&",
                "HDR^|\\~&^~S~~F~^a^~E~");
    }

    private static void refused(Check check) {
        BedMessages x = new BedMessages();
        check.due("write of no message", Check.write(x, "|^~\\&"), BedMessages.NONE);
        Check.send(x, "HDR|^~\\&|no identity");
        check.due("write after a rejected frame", Check.write(x, "|^~\\&"), BedMessages.NONE);
        Check.send(x, Check.HEAD + "a|x");
        for (int one = 0; one < 5; one++) {
            for (int other = 0; other < 5; other++) {
                char[] five = "|^~\\&".toCharArray();
                five[one] = five[other];
                int want = one == other ? 16 : BedMessages.NONE;
                check.due("write with two alike", Check.write(x, new String(five)), want);
            }
        }
    }

    private static void everySeparator(Check check) {
        for (int place = 0; place < 5; place++) {
            for (int c = 0; c <= 65535; c += c < 300 ? 1 : 77) {
                BedMessages x = new BedMessages();
                Check.send(x, Check.HEAD + "a|x");
                char[] five = "#!*+-".toCharArray();
                boolean taken = "#!*+-".indexOf(c) >= 0 && five[place] != c;
                five[place] = (char) c;
                boolean good = !taken && c >= 33 && c <= 126 && c != '"' && !Character.isLetterOrDigit(c);
                check.due("write with " + c + " at " + place, Check.write(x, new String(five)), good ? 16 : BedMessages.NONE);
            }
        }
    }

    private static void whatWasWrittenStays(Check check) {
        BedMessages x = new BedMessages();
        Check.send(x, Check.HEAD + "a|x");
        Check.write(x, "#!*+-");
        check.due("write with wrong ones", Check.write(x, "#!*+a"), BedMessages.NONE);
        check.due("written", Check.writtenText(x), "HDR#!*+-#LAB#a#x");
        Check.send(x, "HDR|^~\\&|LAB|b|" + "y".repeat(20));
        Check.send(x, "");
        check.due("written after later frames", Check.writtenText(x), "HDR#!*+-#LAB#a#x");
        check.due("write", Check.write(x, "|^~\\&"), 35);
        check.due("written", Check.writtenText(x), "HDR|^~\\&|LAB|b|" + "y".repeat(20));
        Check.send(x, "HDR|^~\\&||c");
        check.due("write of a shorter one", Check.write(x, "|^~\\&"), 11);
        check.due("written", Check.writtenText(x), "HDR|^~\\&||c");
    }

    private static void theLongest(Check check) {
        String head = "HDR|^~\\&||a|";
        int many = 200 - head.length();
        String want = "HDR#!*+-##a#" + "+F+".repeat(many);
        BedMessages x = new BedMessages();
        Check.send(x, head + "#".repeat(many));
        check.due("write of the longest", Check.write(x, "#!*+-"), want.length());
        // an object is asked at most 512 times
        for (int i = want.length() - 400; i < want.length(); i++) {
            check.due("written(" + i + ") of the longest", x.written(i), want.charAt(i));
        }
        check.due("written behind the longest", x.written(want.length()), BedMessages.NONE);
        dueWritten(check, head + "&".repeat(many), "#!*+-", "HDR#!*+-##a#" + "-".repeat(many));
    }
}
