/** Terms, what was seen before and the RECEIPT TEXT, sentence by sentence, with their edges. */
public final class ReplayEdgesTest {
    private static final Story BUSY = Story.busy();

    private final Check check = new Check();

    public static void main(String[] args) {
        ReplayEdgesTest test = new ReplayEdgesTest();
        test.everyReasonAgain();
        test.nothingElseHappens();
        test.lastSixteen();
        test.rejectedAreNotAmongThem();
        test.replayedIsNoLaterOne();
        test.forgottenIsNewAgain();
        test.differentIdentities();
        test.placeAmongReasons();
        test.receiptTexts();
        test.noReceiptText();
        test.check.finish();
    }

    private static String error(String identity) {
        return "HDR|^~\\&||" + identity + "|ADT^A08";
    }

    private void due(Story story, int reason, boolean replayed) {
        BedMessages x = story.tell();
        int receipt = reason == 0 ? BedMessages.ACCEPTED : reason > 10 ? BedMessages.ERROR : BedMessages.REJECTED;
        check.due("end()", story.lastAnswer(), receipt);
        check.due("reason()", x.reason(), reason);
        check.due("replayed()", x.replayed(), replayed);
    }

    /** For each reason 0 and 11 to 18 a message that gets it from a busy object. */
    private static String[][] messages() {
        return new String[][] {
            {"0", "ADT^A01\rPID|3\rPV1|A^2"}, {"0", "ADT^A02\rPID|1\rPV1|A^2"}, {"0", "ADT^A03\rPID|1"},
            {"0", "ADT^A08\rPID|1|Poe"}, {"0", "ORU^R01\rPID|1\rOBX|ab|5\rOBX|ef|6"},
            {"11", "ADT^A01"}, {"12", "ADT^A01\rPID|3"}, {"13", "ADT^A03\rPID|3"}, {"14", "ADT^A01\rPID|1\rPV1|A^2"},
            {"15", "ADT^A01\rPID|3\rPV1|A^1"}, {"16", "ADT^A08\rPID|3"}, {"17", "ORU^R01\rPID|1"}};
    }

    private void everyReasonAgain() {
        check.about("gets this receipt and reason again");
        for (String[] message : messages()) {
            int reason = Integer.parseInt(message[0]);
            Story first = BUSY.send(Check.HEAD + "id|" + message[1]);
            due(first, reason, false);
            Story again = first.send(Check.HEAD + "id|" + message[1]);
            due(again, reason, true);
            due(again.send(Check.HEAD + "id|" + message[1]), reason, true);
            for (String[] other : messages()) {
                due(first.send(Check.HEAD + "id|" + other[1]), reason, true);
            }
        }
        // 18, which takes a patient with twelve codes
        Story story = BUSY;
        for (String c : new String[] {"k", "l"}) {
            String five = "\rOBX|?a|1\rOBX|?b|1\rOBX|?c|1\rOBX|?d|1\rOBX|?e|1";
            story = story.send(Check.HEAD + c + "|ORU^R01\rPID|1" + five.replace("?", c));
        }
        Story first = story.send(Check.HEAD + "id|ORU^R01\rPID|1\rOBX|xx|1");
        due(first, 18, false);
        due(first.send(Check.HEAD + "id|ORU^R01\rPID|1\rOBX|ab|\"\""), 18, true);
    }

    private void nothingElseHappens() {
        check.about("and nothing else happens; it is REPLAYED.");
        String[] identities = {"m1", "m2", "m3", "m4", "id"};
        for (String[] message : messages()) {
            for (String[] other : messages()) {
                Story first = BUSY.send(Check.HEAD + "id|" + message[1]);
                Story again = first.send(Check.HEAD + "id|" + other[1]);
                check.same("beds after a replay", again.wardState(), first.wardState());
                check.same("written after a replay", again.writtenState(), first.writtenState());
                check.same("identities after a replay", again.ledgerState(identities), first.ledgerState(identities));
                check.due("room after a replay", again.room(), 200);
            }
        }
        // an error is replayed although it would be none by now
        Story left = BUSY.send(Check.HEAD + "id|ADT^A01\rPID|3\rPV1|A^1").send(Check.HEAD + "l1|ADT^A03\rPID|1");
        Story again = left.send(Check.HEAD + "id|ADT^A01\rPID|3\rPV1|A^1");
        due(again, 15, true);
        check.same("beds after a replayed error", again.wardState(), left.wardState());
    }

    private static Story withErrors(Story before, String letter, int many) {
        Story story = before;
        for (int i = 0; i < many; i++) {
            story = story.send(error(letter + i));
        }
        return story;
    }

    private void lastSixteen() {
        check.about("one of the last 16 different ones that got a receipt ACCEPTED or ERROR");
        Story accepted = new Story().send("HDR|^~\\&||id|ADT^A01\rPID|1\rPV1|A^1");
        for (int between = 0; between <= 17; between++) {
            Story later = withErrors(accepted, "e", between);
            // the same frame again: replayed while it is among the last 16, an error 14 when it is not
            Story again = later.send("HDR|^~\\&||id|ADT^A01\rPID|1\rPV1|A^1");
            due(again, between <= 15 ? 0 : 14, between <= 15);
            check.same("beds", again.wardState(), accepted.wardState());
        }
        // round the ring a second and a third time
        Story story = withErrors(accepted, "e", 40);
        for (int i = 0; i < 40; i++) {
            due(story.send("HDR|^~\\&||e" + i + "|ADT^A03\rPID|9"), i < 24 ? 13 : 11, i >= 24);
        }
    }

    private void rejectedAreNotAmongThem() {
        Story fifteen = withErrors(new Story().send(Check.HEAD + "id|ADT^A01\rPID|1\rPV1|A^1"), "e", 15);
        Story rejected = fifteen;
        for (int i = 0; i < 17; i++) {
            rejected = rejected.send("HDR|^~\\&||r" + i + "|X");
            due(rejected, 6, false);
        }
        rejected = rejected.sendAll("", "HDR", "HDR|^~\\&x", error("id") + "\rABC".repeat(8), "HDR|^~\\&|id|");
        due(rejected.send(Check.HEAD + "id|X"), 0, true);
        due(rejected.send("HDR|^~\\&||r16|X"), 6, false);
        due(rejected.send(error("r16")), 11, false);
        // one further error is too many
        due(rejected.send(error("e15")).send(Check.HEAD + "id|X"), 6, false);
    }

    private void replayedIsNoLaterOne() {
        check.about("(An identity that is replayed does not become a later one thereby.)");
        Story sixteen = withErrors(new Story(), "e", 16);
        String[] identities = new String[16];
        for (int i = 0; i < 16; i++) {
            identities[i] = "e" + i;
        }
        String order = sixteen.ledgerOrder(identities);
        for (int i = 0; i < 16; i++) {
            Story again = sixteen.send(error("e" + i)).send(error("e" + i));
            due(again, 11, true);
            check.same("order after e" + i + " again", again.ledgerOrder(identities), order);
        }
    }

    private void forgottenIsNewAgain() {
        Story seventeen = withErrors(new Story(), "e", 17);
        // e0 was forgotten; it is carried out, and thrusts out e1
        Story anew = seventeen.send("HDR|^~\\&||e0|ADT^A01\rPID|1\rPV1|A^1");
        due(anew, 0, false);
        check.due("bedOf(1)", anew.tell().bedOf(1), 1);
        due(anew.send(error("e0")), 0, true);
        due(anew.send(error("e2")), 11, true);
        due(anew.send("HDR|^~\\&||e1|ADT^A03\rPID|1"), 0, false);
        // it is the latest of sixteen now
        due(withErrors(anew, "f", 15).send(error("e0")), 0, true);
        due(withErrors(anew, "f", 16).send(error("e0")), 11, false);
    }

    private void differentIdentities() {
        check.about("one of the last 16 different ones");
        String[][] pairs = {{"a", "A"}, {"a", "aa"}, {"0", "00"}, {"1", "01"}, {"abcdef", "abcdeg"}, {"abcdef", "bbcdef"},
            {"abcdef", "abcde"}, {"Z9", "z9"}, {"ab", "ba"}};
        for (String[] pair : pairs) {
            due(new Story().sendAll(error(pair[0]), error(pair[1])), 11, false);
            due(new Story().sendAll(error(pair[1]), error(pair[0])), 11, false);
            due(new Story().sendAll(error(pair[0]), error(pair[0])), 11, true);
            due(new Story().sendAll(error(pair[0]), error(pair[1]), error(pair[0])), 11, true);
        }
        due(new Story().sendAll(error("ab"), "HDR#!*+-##+X61+b#"), 11, true);
    }

    private void placeAmongReasons() {
        check.about("(The message has been seen before: see below.)");
        Story seen = BUSY.send(Check.HEAD + "id|ADT^A08\rPID|1");
        String ward = seen.wardState();
        String[] frames = {"HDX|^~\\&|LAB|id|X", "HDR|^~\\\\|LAB|id|X", Check.HEAD + "id|\\", Check.HEAD + "id|X" + "\rABC".repeat(8),
            Check.HEAD + "id.|X"};
        for (int i = 0; i < frames.length; i++) {
            Story story = seen.send(frames[i]);
            due(story, 1 + i, false);
            check.same("beds", story.wardState(), ward);
        }
        due(seen.send(Check.HEAD + "id|X"), 0, true);
        due(seen.send(Check.HEAD + "id"), 0, true);
        due(seen.send(Check.HEAD + "id|ADT^A01"), 0, true);
        due(seen.send(Check.HEAD + "id|X" + "\rABC".repeat(7)), 0, true);
    }

    private void text(Story story, String want) {
        BedMessages x = story.tell();
        check.due("receipt text", Check.receiptText(x), want);
        check.due("receiptLength()", x.receiptLength(), want.length());
        check.due("receipt(-1)", x.receipt(-1), BedMessages.NONE);
        check.due("receipt at its end", x.receipt(want.length() - 1), want.charAt(want.length() - 1));
        check.due("receipt behind its end", x.receipt(want.length()), BedMessages.NONE);
    }

    private static String receipt(String five, String letters, String identity, String reason) {
        String f = five.substring(0, 1);
        return "HDR" + five + f + "ENG" + f + identity + f + "ACK\rMSA" + f + letters + f + identity + f + reason;
    }

    private void receiptTexts() {
        check.about("the reason in digits");
        for (String[] message : messages()) {
            String letters = message[0].equals("0") ? "AA" : "AE";
            for (String identity : new String[] {"i", "abcdef"}) {
                Story first = BUSY.send(Check.HEAD + identity + "|" + message[1]);
                text(first, receipt("|^~\\&", letters, identity, message[0]));
                text(first.send(Check.HEAD + identity), receipt("|^~\\&", letters, identity, message[0]));
                // the separators are those of the frame that comes again
                text(first.send("HDR&\\~^|&&" + identity), receipt("&\\~^|", letters, identity, message[0]));
            }
        }
        text(BUSY.send(Check.HEAD + "i|X"), "HDR|^~\\&|ENG|i|ACK\rMSA|AR|i|6");
        text(BUSY.send("HDR!#$%'!!abcdef!X"), "HDR!#$%'!ENG!abcdef!ACK\rMSA!AR!abcdef!6");
        check.about("The RECEIPT TEXT of a frame that has an identity");
        text(BUSY.send(Check.HEAD + "\\X69\\|X"), "HDR|^~\\&|ENG|i|ACK\rMSA|AR|i|6");
    }

    private void noReceiptText() {
        check.about("Of one REJECTED with 1 to 5 it has no characters.");
        String[] frames = {"", "HDR|^~\\\\|LAB|id|X", Check.HEAD + "id|\\", Check.HEAD + "id|X" + "\rABC".repeat(8), Check.HEAD + "|X"};
        for (int i = 0; i < frames.length; i++) {
            Story story = BUSY.send(frames[i]);
            due(story, 1 + i, false);
            check.due("receiptLength()", story.tell().receiptLength(), 0);
            for (int at = -1; at <= 40; at++) {
                check.due("receipt(" + at + ")", story.tell().receipt(at), BedMessages.NONE);
            }
        }
    }
}
