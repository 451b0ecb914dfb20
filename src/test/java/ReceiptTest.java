/** Promises 4 to 7: reason, replayed, receiptLength and receipt. */
public final class ReceiptTest {
    public static void main(String[] args) {
        Check check = new Check();
        texts(check);
        ends(check);
        replays(check);
        sixteenAreRemembered(check);
        rejectedAreNotRemembered(check);
        check.finish();
    }

    private static void texts(Check check) {
        BedMessages x = new BedMessages();
        Check.send(x, Check.admit("m1", 7, "B^3"));
        check.due("ACCEPTED", Check.receiptText(x), "HDR|^~\\&|ENG|m1|ACK\rMSA|AA|m1|0");
        Check.send(x, "HDR#!*+-##Abc123#ADT!A01\rPID#7\rPV1#A!0");
        check.due("ERROR", Check.receiptText(x), "HDR#!*+-#ENG#Abc123#ACK\rMSA#AE#Abc123#14");
        check.due("receiptLength()", x.receiptLength(), 40);
        Check.send(x, "HDR$%(){$$q$ADT%A09");
        check.due("REJECTED 6", Check.receiptText(x), "HDR$%(){$ENG$q$ACK\rMSA$AR$q$6");
        Check.send(x, Check.HEAD + "a\\X42\\&u^v~w|ADT");
        check.due("identity with an escape", Check.receiptText(x), "HDR|^~\\&|ENG|aB|ACK\rMSA|AR|aB|6");
        for (String frame : new String[] {"", "HDR", "HDR|^~\\&x", Check.HEAD + "z|ADT^A01" + "\rAAA".repeat(8), "HDR|^~\\&"}) {
            Check.send(x, Check.HEAD + "a|ADT");
            Check.send(x, frame);
            check.due("receiptLength() of " + Check.shown(frame), x.receiptLength(), 0);
            check.due("receipt(0) of " + Check.shown(frame), x.receipt(0), BedMessages.NONE);
        }
    }

    private static void ends(Check check) {
        BedMessages x = new BedMessages();
        Check.send(x, Check.admit("m1", 7, "B^3"));
        check.due("receipt(-1)", x.receipt(-1), BedMessages.NONE);
        check.due("receipt(0)", x.receipt(0), 'H');
        check.due("receipt(19)", x.receipt(19), 13);
        check.due("receipt(30)", x.receipt(30), '0');
        check.due("receipt(31)", x.receipt(31), BedMessages.NONE);
        check.due("receipt(MAX)", x.receipt(Integer.MAX_VALUE), BedMessages.NONE);
        check.due("receipt(MIN)", x.receipt(Integer.MIN_VALUE), BedMessages.NONE);
        Check.typeAll(x, "HDR");
        check.due("receipt while a frame is typed", Check.receiptText(x), "HDR|^~\\&|ENG|m1|ACK\rMSA|AA|m1|0");
        check.due("reason while a frame is typed", x.reason(), 0);
    }

    private static void replays(Check check) {
        BedMessages x = new BedMessages();
        check.dueReceipt(x, Check.admit("m1", 7, "B^3"), BedMessages.ACCEPTED, 0);
        check.due("replayed() the first time", x.replayed(), false);
        check.dueReceipt(x, "HDR#!*+-##m1#ADT!A03\rPID#7", BedMessages.ACCEPTED, 0);
        check.due("replayed()", x.replayed(), true);
        check.due("text with its own separators", Check.receiptText(x), "HDR#!*+-#ENG#m1#ACK\rMSA#AA#m1#0");
        check.due("bedOf(7) after a replay", x.bedOf(7), 11);
        check.due("segments() of a replay", x.segments(), 2);
        check.dueReceipt(x, Check.HEAD + "m1|what", BedMessages.ACCEPTED, 0);
        check.due("replayed() without a type", x.replayed(), true);
        check.dueReceipt(x, Check.HEAD + "m1|what\r", BedMessages.ACCEPTED, 0);
        check.dueReceipt(x, Check.HEAD + "m1|what\r\r", BedMessages.REJECTED, 3);
        check.due("replayed() of one malformed", x.replayed(), false);
        check.dueReceipt(x, Check.HEAD + "\\X6D\\1|what", BedMessages.ACCEPTED, 0);
        check.due("replayed() with an escape", x.replayed(), true);
        check.dueReceipt(x, Check.HEAD + "M1|ADT^A03", BedMessages.ERROR, 11);
        check.due("replayed() of a capital", x.replayed(), false);
        check.dueReceipt(x, Check.HEAD + "M1|ADT^A03\rPID|7", BedMessages.ERROR, 11);
        check.due("replayed() of an error", x.replayed(), true);
        check.dueReceipt(x, Check.HEAD + "m11|ADT^A03\rPID|7", BedMessages.ACCEPTED, 0);
        check.due("replayed() of a longer one", x.replayed(), false);
        check.dueReceipt(x, "", BedMessages.REJECTED, 1);
        check.due("replayed() of no frame", x.replayed(), false);
    }

    private static void sixteenAreRemembered(Check check) {
        BedMessages x = new BedMessages();
        for (int i = 0; i < 16; i++) {
            check.dueReceipt(x, Check.HEAD + "n" + i + "|ADT^A08\rPID|" + (i % 2 == 0 ? "1" : "x"), BedMessages.ERROR, i % 2 == 0 ? 16 : 11);
        }
        check.dueReceipt(x, Check.HEAD + "n0|ADT^A03", BedMessages.ERROR, 16);
        check.due("replayed() of the oldest of 16", x.replayed(), true);
        // n0 was replayed and is the oldest nevertheless
        check.dueReceipt(x, Check.HEAD + "p0|ADT^A03\rPID|1", BedMessages.ERROR, 13);
        check.dueReceipt(x, Check.HEAD + "n1|ADT^A03\rPID|1", BedMessages.ERROR, 11);
        check.due("replayed() of n1", x.replayed(), true);
        check.dueReceipt(x, Check.HEAD + "n0|ADT^A03\rPID|1", BedMessages.ERROR, 13);
        check.due("replayed() of n0", x.replayed(), false);
        // n0 is the newest now and has thrust out n1
        check.dueReceipt(x, Check.HEAD + "n0|ADT^A01", BedMessages.ERROR, 13);
        check.due("replayed() of n0 again", x.replayed(), true);
        check.dueReceipt(x, Check.HEAD + "n2|ADT^A01", BedMessages.ERROR, 16);
        check.due("replayed() of n2", x.replayed(), true);
        check.dueReceipt(x, Check.HEAD + "n1|ADT^A03\rPID|1", BedMessages.ERROR, 13);
        check.due("replayed() of n1", x.replayed(), false);
    }

    private static void rejectedAreNotRemembered(Check check) {
        BedMessages x = new BedMessages();
        check.dueReceipt(x, Check.admit("m1", 7, "B^3"), BedMessages.ACCEPTED, 0);
        for (int i = 0; i < 20; i++) {
            check.dueReceipt(x, Check.HEAD + "r" + i + "|ADT^A07", BedMessages.REJECTED, 6);
            check.due("replayed() of a rejected one", x.replayed(), false);
        }
        check.dueReceipt(x, Check.HEAD + "r19|ADT^A07", BedMessages.REJECTED, 6);
        check.due("replayed() of a rejected one again", x.replayed(), false);
        check.dueReceipt(x, Check.HEAD + "r19|ADT^A03\rPID|7", BedMessages.ACCEPTED, 0);
        check.due("replayed() of one that was rejected", x.replayed(), false);
        check.dueReceipt(x, Check.HEAD + "m1|ADT^A03\rPID|7", BedMessages.ACCEPTED, 0);
        check.due("replayed() of m1", x.replayed(), true);
    }
}
