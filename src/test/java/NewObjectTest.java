/** Promise 1: no characters, no receipt, nobody known; and wrong arguments on a new object. */
public final class NewObjectTest {
    public static void main(String[] args) {
        Check check = new Check();
        BedMessages x = new BedMessages();
        check.due("reason()", x.reason(), BedMessages.NONE);
        check.due("replayed()", x.replayed(), false);
        check.due("receiptLength()", x.receiptLength(), 0);
        check.due("receipt(0)", x.receipt(0), BedMessages.NONE);
        check.due("inBeds()", x.inBeds(), 0);
        check.due("segments()", x.segments(), 0);
        check.due("text of no message", x.text(1, 0, 1, 1, 0), BedMessages.NONE);
        check.due("write of no message", Check.write(x, "|^~\\&"), BedMessages.NONE);
        check.due("written(0)", x.written(0), BedMessages.NONE);
        nobodyIsKnown(check);
        // no characters: what is typed now is the whole frame
        check.dueReceipt(x, Check.HEAD + "m1|ADT^A08\rPID|1", BedMessages.ERROR, 16);
        check.due("end() of no characters", x.end(), BedMessages.REJECTED);
        check.due("reason()", x.reason(), 1);
        twoObjectsShareNothing(check);
        check.finish();
    }

    private static void nobodyIsKnown(Check check) {
        for (int patient = -1; patient <= 101; patient++) {
            BedMessages x = new BedMessages();
            check.due("known(" + patient + ")", x.known(patient), false);
            check.due("bedOf(" + patient + ")", x.bedOf(patient), BedMessages.NONE);
            check.due("results(" + patient + ")", x.results(patient), 0);
            check.due("result(" + patient + ")", x.result(patient, 'a', 'a'), BedMessages.NONE);
            check.due("name(" + patient + ", 1, 0)", x.name(patient, 1, 0), BedMessages.NONE);
        }
        BedMessages y = new BedMessages();
        for (int bed = 0; bed < 32; bed++) {
            check.due("patient in bed " + bed, y.patient(bed / 8, bed % 8), 0);
        }
    }

    private static void twoObjectsShareNothing(Check check) {
        BedMessages one = new BedMessages();
        BedMessages other = new BedMessages();
        Check.send(one, Check.admit("m1", 5, "A^0"));
        check.due("known(5) of another object", other.known(5), false);
        check.due("reason() of another object", other.reason(), BedMessages.NONE);
        check.dueReceipt(other, Check.admit("m1", 6, "A^0"), BedMessages.ACCEPTED, 0);
        check.due("replayed() of another object", other.replayed(), false);
    }
}
