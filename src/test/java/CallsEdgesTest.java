import java.util.function.ToIntFunction;

/** 'What it is': an object answers as is due up to its 512th call; what later ones answer is free. */
public final class CallsEdgesTest {
    private static final int MOST_CALLS = 512;
    private final Check check = new Check();

    public static void main(String[] args) {
        CallsEdgesTest test = new CallsEdgesTest();
        test.check.about("An object is used for at most 512 calls after it has been made");
        test.eachCallAsTheLast();
        test.oneCallOverAndOver();
        test.asManyMessagesAsThereIsTimeFor();
        test.asManyPatientsAsThereIsTimeFor();
        test.check.finish();
    }

    /** The story with calls behind it that change nothing, so that it is one call short of 512. */
    private static Story oneCallShort(Story story, ToIntFunction<BedMessages> idle) {
        Story longer = story;
        while (longer.calls() < MOST_CALLS - 1) {
            longer = longer.call(idle);
        }
        return longer;
    }

    private void eachCallAsTheLast() {
        Story busy = Story.busy();
        for (ToIntFunction<BedMessages> idle : java.util.List.<ToIntFunction<BedMessages>>of(
                x -> x.type(0), x -> x.type(-1), x -> Check.write(x, "aaaaa"), x -> x.text(1, 1, 1, 1, 0), x -> x.name(1, 1, 0))) {
            Story early = oneCallShort(busy, idle);
            due("type", early.call(x -> x.type(Check.packed("HDR|^~\\&"))), 8);
            due("end", early.end(), BedMessages.REJECTED);
            due("reason", early.call(BedMessages::reason), 16);
            due("replayed", early.call(x -> x.replayed() ? 1 : 0), 0);
            due("receiptLength", early.call(BedMessages::receiptLength), 32);
            due("receipt", early.call(x -> x.receipt(31)), '6');
            due("patient", early.call(x -> x.patient(1, 2)), 2);
            due("bedOf", early.call(x -> x.bedOf(2)), 10);
            due("inBeds", early.call(BedMessages::inBeds), 2);
            due("known", early.call(x -> x.known(2) ? 1 : 0), 1);
            due("name", early.call(x -> x.name(2, 2, 2)), 'a');
            due("result", early.call(x -> x.result(1, 'a', 'b')), 12);
            due("results", early.call(x -> x.results(1)), 2);
            due("segments", early.call(BedMessages::segments), 2);
            due("text", early.call(x -> x.text(2, 1, 1, 1, 0)), '3');
            due("write", early.write("|^~\\&"), 29);
            due("written", early.call(x -> x.written(0)), 'H');
        }
        Story admission = busy.type(Check.admit("id", 3, "A^3"));
        due("end of a message", oneCallShort(admission, x -> x.type(0)).end(), BedMessages.ACCEPTED);
    }

    private void due(String call, Story story, int want) {
        check.due("calls", story.calls(), MOST_CALLS);
        check.due(call + " as the 512th call", story.lastAnswer(), want);
    }

    private void oneCallOverAndOver() {
        BedMessages ends = new BedMessages();
        BedMessages types = new BedMessages();
        BedMessages writes = Story.busy().tell();
        for (int n = 1; n <= MOST_CALLS; n++) {
            check.due("end() number " + n, ends.end(), BedMessages.REJECTED);
            check.due("type number " + n, types.type('x'), n <= 200 ? 1 : BedMessages.NONE);
            if (n <= MOST_CALLS - Story.busy().calls()) {
                check.due("write number " + n, Check.write(writes, n % 2 == 0 ? "|^~\\&" : "#!*+-"), 29);
            }
        }
    }

    private void asManyMessagesAsThereIsTimeFor() {
        Story story = new Story();
        int sent = 0;
        while (story.calls() + 4 <= MOST_CALLS) {
            story = story.send("HDR|^~\\&||" + (char) ('A' + sent / 26) + (char) ('A' + sent % 26) + "|ADT^A08");
            sent++;
        }
        check.due("messages", sent, 128);
        check.due("calls", story.calls(), MOST_CALLS);
        check.due("last of 512 calls", story.lastAnswer(), BedMessages.ERROR);
    }

    private void asManyPatientsAsThereIsTimeFor() {
        Story story = new Story();
        int patient = 0;
        // ten or eleven calls for each who comes and leaves, and one call to ask
        while (story.calls() + 11 < MOST_CALLS) {
            patient++;
            story = story.send("HDR|^~\\&||a" + patient + "|ADT^A01\rPID|" + patient + "\rPV1|A^0")
                    .send("HDR|^~\\&||l" + patient + "|ADT^A03\rPID|" + patient);
        }
        int last = patient;
        check.due("patients", last >= 40, true);
        check.due("known(1)", story.call(x -> x.known(1) ? 1 : 0).lastAnswer(), 1);
        check.due("known, the last one", story.call(x -> x.known(last) ? 1 : 0).lastAnswer(), 1);
        check.due("known, one more", story.call(x -> x.known(last + 1) ? 1 : 0).lastAnswer(), 0);
        check.due("inBeds()", story.call(BedMessages::inBeds).lastAnswer(), 0);
    }
}
