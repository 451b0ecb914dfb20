/** Promise 2: type. */
public final class TypeTest {
    public static void main(String[] args) {
        Check check = new Check();
        everyByte(check);
        upToTheFirstZero(check);
        refusedChangesNothing(check);
        atMostTwoHundred(check);
        lowestByteFirst(check);
        check.finish();
    }

    private static void everyByte(Check check) {
        for (int c = 1; c <= 255; c++) {
            boolean good = c >= 32 && c <= 126 || c == 13;
            for (int place = 0; place < 8; place++) {
                long text = Check.packed("AAAAAAAA") & ~(255L << 8 * place) | (long) c << 8 * place;
                int answer = new BedMessages().type(text);
                check.due("type with byte " + c + " at " + place, answer, good ? 8 : BedMessages.NONE);
            }
        }
    }

    private static void upToTheFirstZero(Check check) {
        BedMessages x = new BedMessages();
        check.due("type(0)", x.type(0), 0);
        check.due("type of a zero and a letter", x.type(0x4100L), 0);
        check.due("type of a letter, a zero, a wrong byte", x.type(0x070048L), 1);
        check.due("type of a letter, a zero, bytes 255", x.type(0xFFFFFFFFFFFF0044L), 1);
        Check.typeAll(x, "R|^~\\&||a1|ADT^A08\rPID|1");
        check.due("end() of what stood before the zeros", x.end(), BedMessages.ERROR);
        check.due("reason()", x.reason(), 16);
    }

    private static void refusedChangesNothing(Check check) {
        BedMessages x = new BedMessages();
        Check.typeAll(x, "HDR|^~\\&||a1|ADT^A08\rPID|");
        check.due("type of good ones and a wrong one", x.type(Check.packed("123\t")), BedMessages.NONE);
        check.due("type(-1)", x.type(-1L), BedMessages.NONE);
        check.due("type of 10", x.type(10L), BedMessages.NONE);
        check.due("type of 31", x.type(31L), BedMessages.NONE);
        check.due("type of 127", x.type(127L), BedMessages.NONE);
        check.due("type(Long.MIN_VALUE)", x.type(Long.MIN_VALUE), 0);
        Check.typeAll(x, "1");
        check.due("end()", x.end(), BedMessages.ERROR);
        check.due("reason()", x.reason(), 16);
    }

    private static void atMostTwoHundred(Check check) {
        BedMessages x = new BedMessages();
        String frame = "HDR|^~\\&||a1|ADT^A08\rPID|1|";
        Check.typeAll(x, frame + "x".repeat(196 - frame.length()));
        check.due("type of 5 behind 196", x.type(Check.packed("yyyyy")), BedMessages.NONE);
        check.due("type of 8 behind 196", x.type(Check.packed("yyyyyyyy")), BedMessages.NONE);
        check.due("type of 4 behind 196", x.type(Check.packed("zzzz")), 4);
        check.due("type of 1 behind 200", x.type(Check.packed("y")), BedMessages.NONE);
        check.due("type of none behind 200", x.type(0), 0);
        check.due("type of a wrong one behind 200", x.type(7), BedMessages.NONE);
        check.due("end() of 200", x.end(), BedMessages.ERROR);
        String rest = "x".repeat(196 - frame.length()) + "zzzz";
        check.due("the field of 200", Check.partText(x, 2, 2, 1, 1), rest);
        check.due("type after end", x.type(Check.packed("HDR|^~\\&")), 8);
    }

    private static void lowestByteFirst(Check check) {
        BedMessages x = new BedMessages();
        check.due("type HDR|^~\\&", x.type(2764223215576433736L), 8);
        Check.typeAll(x, "|abc|i|t");
        x.end();
        check.due("field 1", Check.partText(x, 1, 1, 1, 1), "abc");
    }
}
