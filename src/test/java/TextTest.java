/** Promises 15 and 16: segments and text. */
public final class TextTest {
    public static void main(String[] args) {
        Check check = new Check();
        whichMessageIsLatest(check);
        parts(check);
        whatIsNotThere(check);
        check.finish();
    }

    private static void dueLatest(Check check, BedMessages x, int segments, String field1) {
        check.due("segments()", x.segments(), segments);
        check.due("field 1 of the header", Check.partText(x, 1, 1, 1, 1), field1);
    }

    private static void whichMessageIsLatest(Check check) {
        BedMessages x = new BedMessages();
        Check.send(x, "");
        dueLatest(check, x, 0, "");
        Check.send(x, "HDR|^~\\&|one|m1|ADT^A01\rPID|1\rPV1|A^1");
        dueLatest(check, x, 3, "one");
        for (String frame : new String[] {"", "HDR", "HDR|^~\\&|two|m2|x\r\r", "HDR|^~\\&|two|m2|x\rAAA|\\",
            "HDR|^~\\&|two|m2|x" + "\rAAA".repeat(8), "HDR|^~\\&|two|m_2|x", "HDR|^~\\&|two"}) {
            Check.send(x, frame);
            dueLatest(check, x, 3, "one");
        }
        Check.send(x, "HDR|^~\\&|rejected|m2|x\rAAA");
        dueLatest(check, x, 2, "rejected");
        Check.send(x, "HDR|^~\\&|error|m3|ADT^A01" + "\rAAA".repeat(7));
        dueLatest(check, x, 8, "error");
        Check.send(x, "HDR#!*+-#replayed#m1#");
        check.due("replayed()", x.replayed(), true);
        dueLatest(check, x, 1, "replayed");
        Check.typeAll(x, "HDR|^~\\&|typed|m4");
        dueLatest(check, x, 1, "replayed");
        x.end();
        dueLatest(check, x, 1, "typed");
        Check.send(x, "HDR|^~\\&||m5\r");
        dueLatest(check, x, 1, "");
    }

    private static BedMessages withParts() {
        BedMessages x = new BedMessages();
        Check.send(x, "HDR#!*+-#f1!c2*r2!d2-s2!c3#id#T\rP1D##a-b!c-d!-e*f*!g#+F++S++R++E++T+|+X7E+\rZZZ\rHDR#x#");
        return x;
    }

    private static void duePart(Check check, BedMessages x, int[] numbers, String want) {
        String got = Check.partText(x, numbers[0], numbers[1], numbers[2], numbers[3]);
        check.due("text" + java.util.Arrays.toString(numbers), got, want);
    }

    private static void parts(Check check) {
        BedMessages x = withParts();
        check.due("segments()", x.segments(), 4);
        String[] names = {"HDR", "P1D", "ZZZ", "HDR"};
        for (int s = 1; s <= 4; s++) {
            duePart(check, x, new int[] {s, 0, 1, 1}, names[s - 1]);
        }
        duePart(check, x, new int[] {1, 1, 1, 1}, "f1");
        duePart(check, x, new int[] {1, 1, 1, 2}, "c2");
        duePart(check, x, new int[] {1, 1, 2, 1}, "r2");
        duePart(check, x, new int[] {1, 1, 2, 2}, "d2");
        duePart(check, x, new int[] {1, 1, 2, 3}, "c3");
        duePart(check, x, new int[] {1, 2, 1, 1}, "id");
        duePart(check, x, new int[] {1, 3, 1, 1}, "T");
        duePart(check, x, new int[] {2, 1, 1, 1}, "");
        duePart(check, x, new int[] {2, 2, 1, 1}, "a");
        duePart(check, x, new int[] {2, 2, 1, 2}, "c");
        duePart(check, x, new int[] {2, 2, 1, 3}, "");
        duePart(check, x, new int[] {2, 2, 2, 1}, "f");
        duePart(check, x, new int[] {2, 2, 3, 1}, "");
        duePart(check, x, new int[] {2, 2, 3, 2}, "g");
        duePart(check, x, new int[] {2, 3, 1, 1}, "#!*+-|~");
        duePart(check, x, new int[] {4, 1, 1, 1}, "x");
        duePart(check, x, new int[] {4, 2, 1, 1}, "");
    }

    private static void whatIsNotThere(Check check) {
        BedMessages x = withParts();
        int[][] none = {{0, 0, 1, 1}, {5, 0, 1, 1}, {9, 0, 1, 1}, {-1, 0, 1, 1}, {1, -1, 1, 1}, {1, 4, 1, 1}, {1, 1, 0, 1},
            {1, 1, 3, 1}, {1, 1, 1, 0}, {1, 1, 1, 3}, {1, 1, 2, 4}, {1, 0, 2, 1}, {1, 0, 1, 2}, {1, 0, 0, 1}, {1, 0, 1, 0},
            {2, 0, 2, 1}, {2, 0, 1, 2}, {3, 1, 1, 1}, {3, 0, 1, 2}, {4, 3, 1, 1}, {2, 2, 4, 1}, {2, 2, 2, 2},
            {1, 1, -1, 1}, {1, 1, 1, -1}};
        for (int[] numbers : none) {
            duePart(check, x, numbers, "");
        }
        int[] far = {Integer.MAX_VALUE, Integer.MIN_VALUE, 1000000};
        for (int f : far) {
            check.due("text(" + f + ", 0, 1, 1, 0)", x.text(f, 0, 1, 1, 0), BedMessages.NONE);
            check.due("text(1, " + f + ", 1, 1, 0)", x.text(1, f, 1, 1, 0), BedMessages.NONE);
            check.due("text(1, 0, " + f + ", 1, 0)", x.text(1, 0, f, 1, 0), BedMessages.NONE);
            check.due("text(1, 0, 1, " + f + ", 0)", x.text(1, 0, 1, f, 0), BedMessages.NONE);
            check.due("text(1, 0, 1, 1, " + f + ")", x.text(1, 0, 1, 1, f), BedMessages.NONE);
        }
        check.due("text(1, 0, 1, 1, 2)", x.text(1, 0, 1, 1, 2), 'R');
        check.due("text(1, 0, 1, 1, 3)", x.text(1, 0, 1, 1, 3), BedMessages.NONE);
        check.due("text(1, 0, 1, 1, -1)", x.text(1, 0, 1, 1, -1), BedMessages.NONE);
        check.due("text(2, 2, 1, 1, 1), where sub 2 begins", x.text(2, 2, 1, 1, 1), BedMessages.NONE);
        check.due("text(2, 2, 1, 2, -2)", x.text(2, 2, 1, 2, -2), BedMessages.NONE);
    }
}
