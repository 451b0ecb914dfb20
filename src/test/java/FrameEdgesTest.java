/**
 * Terms, from 'A FRAME is' to reason 5, sentence by sentence: the last frame that is a message, the
 * first that is none, and that one that is none changes nothing but the latest receipt.
 */
public final class FrameEdgesTest {
    private static final int REJECTED = BedMessages.REJECTED;
    private static final Story BUSY = Story.busy();
    /** A message about a patient who is not known: ERROR 16. */
    private static final String GOOD = Check.HEAD + "id|ADT^A08\rPID|3";
    private static final String FIVE = "|^~\\&";

    private final Check check = new Check();
    private final String ward = BUSY.wardState();
    private final String message = BUSY.messageState();
    private final String written = BUSY.writtenState();
    private final String ledger = BUSY.ledgerState(Story.BUSY_IDENTITIES);

    public static void main(String[] args) {
        FrameEdgesTest test = new FrameEdgesTest();
        test.mostCharacters();
        test.whichCharacters();
        test.cutIntoSegments();
        test.beginsWithHeader();
        test.fiveSeparators();
        test.separatorsDiffer();
        test.whichSeparators();
        test.names();
        test.behindSeparatorsOrName();
        test.partsOfNoCharacters();
        test.numberedFromOne();
        test.letterEscapes();
        test.charactersForThemselves();
        test.hexadecimalEscapes();
        test.otherEscapes();
        test.mostSegments();
        test.identityLength();
        test.identityCharacters();
        test.firstReasonCounts();
        test.check.finish();
    }

    /** The frame is a message: it gets this reason, 6 or above, and is the latest one. */
    private void understood(String frame, int reason, int segments) {
        BedMessages x = BUSY.send(frame).tell();
        check.due("reason() of " + Check.shown(frame), x.reason(), reason);
        check.due("segments() of " + Check.shown(frame), x.segments(), segments);
        check.due("receiptLength() of " + Check.shown(frame), x.receiptLength() > 0, true);
    }

    private void understood(String frame) {
        understood(frame, 16, 2);
    }

    /** The frame is no message: nothing but the latest receipt is another one afterwards. */
    private void refused(String frame, int reason) {
        String shown = Check.shown(frame);
        Story story = BUSY.send(frame);
        BedMessages x = story.tell();
        check.due("end() of " + shown, story.lastAnswer(), REJECTED);
        check.due("reason() of " + shown, x.reason(), reason);
        check.due("replayed() of " + shown, x.replayed(), false);
        check.due("receiptLength() of " + shown, x.receiptLength(), 0);
        check.due("receipt(0) of " + shown, x.receipt(0), BedMessages.NONE);
        check.same("beds after " + shown, story.wardState(), ward);
        check.same("latest message after " + shown, story.messageState(), message);
        check.same("what was written after " + shown, story.writtenState(), written);
        check.same("identities after " + shown, story.ledgerState(Story.BUSY_IDENTITIES), ledger);
        check.due("replayed() of a good one behind " + shown, story.send(GOOD).tell().replayed(), false);
    }

    private void mostCharacters() {
        check.about("A FRAME is at most 200 characters");
        for (int length = 199; length <= 200; length++) {
            String frame = GOOD + "|" + "x".repeat(length - GOOD.length() - 1);
            BedMessages x = BUSY.send(frame).tell();
            check.due("reason() of " + length, x.reason(), 16);
            int last = length - GOOD.length() - 2;
            check.due("last character of " + length, x.text(2, 2, 1, 1, last), 'x');
            check.due("behind the last of " + length, x.text(2, 2, 1, 1, last + 1), BedMessages.NONE);
        }
        Story full = BUSY.type(GOOD + "|" + "x".repeat(199 - GOOD.length()));
        check.due("room in a frame of 200", full.room(), 0);
        Story beyond = full.type("y");
        check.due("type of the 201st", beyond.lastAnswer(), BedMessages.NONE);
        check.same("after the 201st", beyond.wholeState(Story.BUSY_IDENTITIES), full.wholeState(Story.BUSY_IDENTITIES));
    }

    private void whichCharacters() {
        check.about("each 32 .. 126 or 13");
        Story begun = BUSY.type(GOOD + "|");
        for (char c : new char[] {13, 32, 33, 125, 126}) {
            check.due("type of " + (int) c, begun.type("" + c).lastAnswer(), 1);
            check.due("room after " + (int) c, begun.type("" + c).room(), begun.room() - 1);
        }
        BedMessages x = begun.type("A ~").end().tell();
        check.due("character 32", x.text(2, 2, 1, 1, 1), 32);
        String want = begun.wholeState(Story.BUSY_IDENTITIES);
        for (char c : new char[] {1, 9, 10, 12, 14, 31, 127, 128, 141, 160, 254, 255}) {
            Story wrong = begun.type("" + c);
            check.due("type of " + (int) c, wrong.lastAnswer(), BedMessages.NONE);
            check.same("after " + (int) c, wrong.wholeState(Story.BUSY_IDENTITIES), want);
        }
    }

    private void cutIntoSegments() {
        check.about("it is cut into SEGMENTS by the characters 13 (one at the very end makes no further segment)");
        understood(Check.HEAD + "id|X", 6, 1);
        understood(Check.HEAD + "id|X\r", 6, 1);
        understood(Check.HEAD + "id|X\rABC", 6, 2);
        understood(Check.HEAD + "id|X\rABC\r", 6, 2);
        understood(Check.HEAD + "id|X\rABC|\r", 6, 2);
        understood(Check.HEAD + "id|X\rABC\rDEF", 6, 3);
        refused(Check.HEAD + "id|X\r\r", 3);
        refused(Check.HEAD + "id|X\rABC\r\r", 3);
        refused(Check.HEAD + "id|X\r\rABC", 3);
        // also when it is the 200th character
        String longest = GOOD + "|" + "x".repeat(198 - GOOD.length());
        understood(longest + "\r");
        refused(longest.substring(0, 198) + "\r\r", 3);
    }

    private void beginsWithHeader() {
        check.about("REJECTED: 1 the frame does not begin with H D R");
        for (String frame : new String[] {"", "H", "HD", "\r", "D", "HDS|^~\\&||id|X", "HDQ", "HER", "HCR", "IDR", "GDR",
            "hDR", "HdR", "HDr", " HDR|^~\\&||id|X", "\rHDR|^~\\&||id|X", "H\rDR"}) {
            refused(frame, 1);
        }
        understood("HDR|^~\\&||id|X", 6, 1);
        refused("HDR", 2);
    }

    private void fiveSeparators() {
        check.about("(or fewer than five characters come before the end of the segment)");
        for (int many = 0; many <= 4; many++) {
            refused("HDR" + FIVE.substring(0, many), 2);
            refused("HDR" + FIVE.substring(0, many) + "\r", 2);
            refused("HDR" + FIVE.substring(0, many) + "\rPID|3", 2);
        }
        // with five it is another reason: there is no identity
        refused("HDR|^~\\&", 5);
        refused("HDR|^~\\&\r", 5);
        refused("HDR|^~\\&\rPID|3", 5);
        understood("HDR|^~\\&||i", 6, 1);
    }

    private void separatorsDiffer() {
        check.about("FIELD, COMPONENT, REPEAT, ESCAPE and SUB, all different");
        for (int one = 0; one < 5; one++) {
            for (int other = 0; other < 5; other++) {
                char[] five = FIVE.toCharArray();
                five[one] = five[other];
                if (one == other) {
                    understood(goodWith(new String(five)));
                } else {
                    refused(goodWith(new String(five)), 2);
                }
            }
        }
    }

    private static String goodWith(String five) {
        char f = five.charAt(0);
        return "HDR" + five + f + f + "id" + f + "ADT" + five.charAt(1) + "A08\rPID" + f + "3";
    }

    private void whichSeparators() {
        check.about("each 33 .. 126, no letter, no digit, not \"");
        String usual = "$%(){";
        for (int place = 0; place < 5; place++) {
            for (char c : "!#/:@[`|~".toCharArray()) {
                understood(goodWith(usual.substring(0, place) + c + usual.substring(place + 1)));
            }
            for (char c : " \"09AZaz5Mm".toCharArray()) {
                refused(goodWith(usual.substring(0, place) + c + usual.substring(place + 1)), 2);
            }
            // character 13 there ends the segment
            refused(goodWith(usual.substring(0, place) + '\r' + usual.substring(place + 1)), 2);
        }
    }

    private void names() {
        check.about("Every other segment begins with a NAME, a capital letter and two capital letters or digits.");
        for (String name : new String[] {"AAA", "ZZZ", "A00", "A99", "Z0Z", "ZZ9", "M5M", "HDR"}) {
            understood(Check.HEAD + "id|X\r" + name, 6, 2);
            understood(Check.HEAD + "id|X\r" + name + "|x\r" + name + "\r", 6, 3);
        }
        for (String name : new String[] {"@AA", "[AA", "aAA", "zAA", "0AA", "9AA", "A@A", "A[A", "A/A", "A:A", "AaA", "AzA",
            "AA@", "AA[", "AA/", "AA:", "AAa", "AAz", " AA", "A A", "AA ", "", "A", "AA", "|AA", "A|A", "AA|", "\\X41\\AA"}) {
            refused(Check.HEAD + "id|X\r" + name + "\rABC", 3);
            refused(Check.HEAD + "id|X\rABC\r" + name + "|x", 3);
        }
        for (String name : new String[] {"A", "AA", "aaa"}) {
            refused(Check.HEAD + "id|X\r" + name, 3);
        }
    }

    private void behindSeparatorsOrName() {
        check.about("Behind the separators, or the name, comes nothing, or FIELD and fields with FIELD between them.");
        understood("HDR|^~\\&||i\rABC", 6, 2);
        understood("HDR|^~\\&||i\rABC|", 6, 2);
        understood("HDR|^~\\&||i\rABC|x|", 6, 2);
        understood("HDR|^~\\&||i\rABC|||", 6, 2);
        for (String behind : new String[] {"A", "0", " ", "^", "~", "\\", "&", "\"", "\\F\\", "A|x", "#"}) {
            refused("HDR|^~\\&" + behind + "||id|X", 3);
            refused("HDR|^~\\&" + behind, 3);
            refused(Check.HEAD + "id|X\rABC" + behind, 3);
            refused(Check.HEAD + "id|X\rABC" + behind + "|x\rABC", 3);
        }
    }

    private void partsOfNoCharacters() {
        check.about("a sub is a TEXT, perhaps of no characters");
        BedMessages x = BUSY.send(Check.HEAD + "id|X|||^^|~~|&&\rABC|").tell();
        check.due("reason()", x.reason(), 6);
        for (int field = 4; field <= 7; field++) {
            for (int part = 1; part <= 3; part++) {
                check.due("repetition " + part + " of field " + field, x.text(1, field, part, 1, 0), BedMessages.NONE);
                check.due("component " + part + " of field " + field, x.text(1, field, 1, part, 0), BedMessages.NONE);
            }
        }
        Check.write(x, "#!*+-");
        check.due("written", Check.writtenText(x), "HDR#!*+-#LAB#id#X###!!#**#--\rABC#");
    }

    private void numberedFromOne() {
        check.about("Fields, repetitions, components and subs are numbered from 1; those that are not there are texts of no"
                + " characters.");
        BedMessages x = BUSY.send(Check.HEAD + "id|X|a&b^c&d~e&f^g&h").tell();
        String[] want = {"a", "c", "e", "g"};
        for (int repetition = 0; repetition <= 3; repetition++) {
            for (int component = 0; component <= 3; component++) {
                boolean isThere = repetition >= 1 && repetition <= 2 && component >= 1 && component <= 2;
                String due = isThere ? want[2 * repetition + component - 3] : "";
                check.due("repetition " + repetition + ", component " + component,
                        Check.partText(x, 1, 4, repetition, component), due);
            }
        }
        check.due("field 1", Check.partText(x, 1, 1, 1, 1), "LAB");
        check.due("field 5", Check.partText(x, 1, 5, 1, 1), "");
        check.due("field -1", Check.partText(x, 1, -1, 1, 1), "");
        // a text that is not there is one of no characters for a message, too
        refused("HDR|^~\\&|LAB", 5);
        understood(Check.HEAD + "id", 6, 1);
        understood(Check.HEAD + "id|ADT", 6, 1);
        understood(Check.HEAD + "id|ADT^A08\rPID", 11, 2);
    }

    private void escapeIs(String five, String escape, String text) {
        char f = five.charAt(0);
        BedMessages x = BUSY.send("HDR" + five + f + f + "id" + f + "<" + escape + ">").tell();
        check.due("reason() with " + escape, x.reason(), 6);
        check.due("text of " + escape, Check.partText(x, 1, 3, 1, 1), "<" + text + ">");
    }

    private void letterEscapes() {
        check.about("ESCAPE, a letter, ESCAPE, the letters being F, S, R, E, T in the order of the separators above;");
        for (String five : new String[] {"|^~\\&", "#!*+-", "-+*!#"}) {
            char e = five.charAt(3);
            for (int place = 0; place < 5; place++) {
                escapeIs(five, "" + e + "FSRET".charAt(place) + e, "" + five.charAt(place));
            }
            for (char letter = 32; letter <= 126; letter++) {
                if ("FSRET".indexOf(letter) < 0 && five.indexOf(letter) < 0) {
                    refused("HDR" + five + five.charAt(0) + five.charAt(0) + "id" + five.charAt(0) + e + letter + e, 3);
                }
            }
        }
    }

    private void charactersForThemselves() {
        check.about("other characters stand for themselves.");
        for (String five : new String[] {"|^~\\&", "#!*+-"}) {
            for (char c = 32; c <= 126; c++) {
                if (five.indexOf(c) < 0) {
                    escapeIs(five, "" + c, "" + c);
                    escapeIs(five, "" + c + c, "" + c + c);
                }
            }
            escapeIs(five, "FSRETX41", "FSRETX41");
        }
    }

    private void hexadecimalEscapes() {
        check.about("A frame may also write any character 32 .. 126 as ESCAPE, X, two hexadecimal digits 0 .. 9, A .. F,"
                + " ESCAPE.");
        escapeIs(FIVE, "\\X20\\", " ");
        escapeIs(FIVE, "\\X21\\", "!");
        escapeIs(FIVE, "\\X29\\", ")");
        escapeIs(FIVE, "\\X2A\\", "*");
        escapeIs(FIVE, "\\X2F\\", "/");
        escapeIs(FIVE, "\\X30\\", "0");
        escapeIs(FIVE, "\\X7D\\", "}");
        escapeIs(FIVE, "\\X7E\\", "~");
        escapeIs(FIVE, "\\X7C\\", "|");
        escapeIs(FIVE, "\\X5C\\", "\\");
        for (String digits : new String[] {"1F", "7F", "00", "0D", "80", "FF", "A0", "2G", "G2", "2/", "2:", "2@", "2a", "2f",
            "3/", "3:", "3@", "3G", "3a", "/2", ":2", "@2", "a2", "2", "", "200", "020", " 2", "2 ", "+2", "-1"}) {
            refused(Check.HEAD + "id|\\X" + digits + "\\", 3);
        }
        refused(Check.HEAD + "id|\\x20\\", 3);
        refused(Check.HEAD + "id|\\20\\", 3);
    }

    private void otherEscapes() {
        check.about("Any other ESCAPE makes the frame MALFORMED.");
        for (String wrong : new String[] {"\\", "\\\\", "\\F", "F\\", "\\X", "\\X2", "\\X20", "\\FF\\", "\\F|\\", "\\X2|0\\",
            "\\F\\\\", "\\F\\F\\", "\\\\F\\", "\\X20\\\\", "\\X20\\F\\", "\\\r", "\\F\r", "\\X20\r", "\\\rF\\", "\\F\rABC|\\"}) {
            refused(Check.HEAD + "id|" + wrong, 3);
            refused("HDR|^~\\&|" + wrong + "|id|X", 3);
            refused(Check.HEAD + "id|X^~&" + wrong, 3);
            refused(Check.HEAD + "id|X\rABC|x\rABC|" + wrong, 3);
        }
        escapeIs(FIVE, "\\F\\\\F\\", "||");
        escapeIs(FIVE, "\\F\\F\\F\\", "|F|");
        escapeIs(FIVE, "\\E\\F\\E\\", "\\F\\");
        // at the end of the 200 characters
        String begin = GOOD + "|" + "x".repeat(196 - GOOD.length());
        understood(begin + "\\F\\");
        refused(begin + "x\\F", 3);
        refused(begin + "xx\\", 3);
    }

    private static String withSegments(String identity, int segments) {
        return Check.HEAD + identity + "|X" + "\rABC".repeat(segments - 1);
    }

    private void mostSegments() {
        check.about("4 the message has more than 8 segments");
        for (int segments = 1; segments <= 8; segments++) {
            understood(withSegments("id", segments), 6, segments);
            understood(withSegments("id", segments) + "\r", 6, segments);
        }
        refused(withSegments("id", 9), 4);
        refused(withSegments("id", 9) + "\r", 4);
        refused(withSegments("id", 46), 4);
        BedMessages x = BUSY.send(withSegments("id", 8) + "|last").tell();
        check.due("field 1 of segment 8", Check.partText(x, 8, 1, 1, 1), "last");
        check.due("field 1 of segment 7", Check.partText(x, 7, 1, 1, 1), "");
    }

    private void identityLength() {
        check.about("5 field 2 of the header, the IDENTITY, is not 1 .. 6 letters (capital or small) and digits.");
        refused(Check.HEAD + "|ADT^A08\rPID|3", 5);
        refused("HDR|^~\\&|LAB", 5);
        refused("HDR|^~\\&|LAB|", 5);
        understood(Check.HEAD + "a|ADT^A08\rPID|3");
        understood(Check.HEAD + "abcde|ADT^A08\rPID|3");
        understood(Check.HEAD + "abcdef|ADT^A08\rPID|3");
        refused(Check.HEAD + "abcdefg|ADT^A08\rPID|3", 5);
        refused(Check.HEAD + "a".repeat(100) + "|ADT^A08\rPID|3", 5);
    }

    private void identityCharacters() {
        for (char c : "09AZaz5Mm".toCharArray()) {
            understood(Check.HEAD + c + "|ADT^A08\rPID|3");
            understood(Check.HEAD + "aaaaa" + c + "|ADT^A08\rPID|3");
        }
        for (char c : "/:@[`{ \"-_".toCharArray()) {
            refused(Check.HEAD + c + "|ADT^A08\rPID|3", 5);
            refused(Check.HEAD + "a" + c + "|ADT^A08\rPID|3", 5);
            refused(Check.HEAD + "aaaaa" + c + "|ADT^A08\rPID|3", 5);
            refused(Check.HEAD + c + "aaaaa|ADT^A08\rPID|3", 5);
        }
        refused(Check.HEAD + "a\\F\\|ADT^A08\rPID|3", 5);
    }

    private void firstReasonCounts() {
        check.about("RECEIPTS are ACCEPTED, ERROR or REJECTED, with a REASON; the first of these that is so:");
        String[] begins = {"HDX|^~\\&", "HDR|^~\\\\", "HDR|^~\\&"};
        for (int header = 1; header <= 3; header++) {
            for (String behind : new String[] {"|LAB|id", "|LAB|", "|LAB|\\", "|LAB|id" + "\rABC".repeat(8),
                "|LAB|" + "\rABC".repeat(8), "|LAB|\\" + "\rABC".repeat(8)}) {
                boolean malformed = behind.contains("\\");
                boolean tooMany = behind.contains("\rABC");
                boolean nameless = !behind.contains("id");
                int reason = header < 3 ? header : malformed ? 3 : tooMany ? 4 : nameless ? 5 : 6;
                if (reason == 6) {
                    understood(begins[header - 1] + behind, 6, 1);
                } else {
                    refused(begins[header - 1] + behind, reason);
                }
            }
        }
    }
}
