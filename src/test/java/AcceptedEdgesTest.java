import java.util.LinkedHashMap;
import java.util.Map;

/** Terms, 'When it is ACCEPTED', sentence by sentence: what is done, its edges, and that nothing else is. */
public final class AcceptedEdgesTest {
    private static final Story BUSY = Story.busy();
    private static final Story LEFT = BUSY.send(Check.HEAD + "l1|ADT^A03\rPID|1");

    private final Check check = new Check();

    public static void main(String[] args) {
        AcceptedEdgesTest test = new AcceptedEdgesTest();
        test.admitted();
        test.moved();
        test.left();
        test.everyBedTaken();
        test.whichTypesGiveNames();
        test.firstTwelveCharacters();
        test.namesOfNoCharacters();
        test.nullTakesNameAway();
        test.resultsInOrder();
        test.nullTakesCodeAway();
        test.stayWhenLeaving();
        test.check.finish();
    }

    /** After the message these lines of the ward's state are as told here, and all others as before. */
    private Story does(Story before, String message, String... lines) {
        String frame = Check.HEAD + "id|" + message;
        Story story = before.send(frame);
        check.due("end() of " + Check.shown(frame), story.lastAnswer(), BedMessages.ACCEPTED);
        Map<String, String> want = new LinkedHashMap<>();
        for (String line : before.wardState().split("\n")) {
            want.put(line.substring(0, line.indexOf(" = ")), line);
        }
        for (String line : lines) {
            if (want.put(line.substring(0, line.indexOf(" = ")), line) == null) {
                throw new IllegalArgumentException("no such line: " + line);
            }
        }
        check.same("beds after " + Check.shown(frame), story.wardState(), String.join("\n", want.values()));
        check.same("written after " + Check.shown(frame), story.writtenState(), before.writtenState());
        return story;
    }

    private void admitted() {
        check.about("A01: the patient is known, and in the bed.");
        does(BUSY, "ADT^A01\rPID|3\rPV1|A^0", "known(3) = 1", "bedOf(3) = 0", "patient(0, 0) = 3", "inBeds() = 3");
        does(BUSY, "ADT^A01\rPID|99\rPV1|D^7", "known(99) = 1", "bedOf(99) = 31", "patient(3, 7) = 99", "inBeds() = 3");
        does(LEFT, "ADT^A01\rPID|1\rPV1|A^7", "bedOf(1) = 7", "patient(0, 7) = 1", "inBeds() = 2");
        does(LEFT, "ADT^A01\rPID|1\rPV1|A^1", "bedOf(1) = 1", "patient(0, 1) = 1", "inBeds() = 2");
    }

    private void moved() {
        check.about("A02: in the other bed.");
        does(BUSY, "ADT^A02\rPID|1\rPV1|A^0", "bedOf(1) = 0", "patient(0, 0) = 1", "patient(0, 1) = 0");
        does(BUSY, "ADT^A02\rPID|1|Poe^Eve\rPV1|D^7", "bedOf(1) = 31", "patient(3, 7) = 1", "patient(0, 1) = 0");
    }

    private void left() {
        check.about("A03: in none.");
        does(BUSY, "ADT^A03\rPID|1", "bedOf(1) = -1", "patient(0, 1) = 0", "inBeds() = 1");
        does(LEFT, "ADT^A03\rPID|2|Poe^Eve", "bedOf(2) = -1", "patient(1, 2) = 0", "inBeds() = 0");
    }

    private void everyBedTaken() {
        check.about("another patient is in the bed");
        Story full = new Story();
        for (int bed = 0; bed < 32; bed++) {
            full = full.send("HDR|^~\\&||b" + bed + "|ADT^A01\rPID|" + (1 + bed) + "\rPV1|" + "ABCD".charAt(bed / 8) + "^" + bed % 8);
        }
        BedMessages x = full.tell();
        check.due("inBeds() when full", x.inBeds(), 32);
        for (int bed = 0; bed < 32; bed++) {
            check.due("patient in bed " + bed, x.patient(bed / 8, bed % 8), 1 + bed);
        }
        Story refused = full.send("HDR|^~\\&||id|ADT^A01\rPID|33\rPV1|D^7");
        check.due("reason() when full", refused.tell().reason(), 15);
        check.due("inBeds() when full", refused.tell().inBeds(), 32);
        check.due("known(33)", refused.tell().known(33), false);
    }

    private static String[] nameLines(int patient, int part, String name) {
        String[] lines = new String[13];
        for (int i = 0; i < 13; i++) {
            int c = i < name.length() ? name.charAt(i) : BedMessages.NONE;
            lines[i] = "name(" + patient + ", " + part + ", " + i + ") = " + c;
        }
        return lines;
    }

    /** A08 for patient 1, Ann Doe, with this field 2 gives these names and changes nothing else. */
    private void renames(String field, String family, String first) {
        String[] lines = new String[26];
        System.arraycopy(nameLines(1, 1, family), 0, lines, 0, 13);
        System.arraycopy(nameLines(1, 2, first), 0, lines, 13, 13);
        does(BUSY, "ADT^A08\rPID|1" + field, lines);
        String[] withBed = java.util.Arrays.copyOf(lines, 29);
        withBed[26] = "bedOf(1) = 1";
        withBed[27] = "patient(0, 1) = 1";
        withBed[28] = "inBeds() = 2";
        does(LEFT, "ADT^A01\rPID|1" + field + "\rPV1|A^1", withBed);
    }

    private void whichTypesGiveNames() {
        check.about("A01 and A08: field 2 of PID gives the NAME: component 1 the family name, component 2 the first name");
        renames("|Poe^Eve", "Poe", "Eve");
        renames("|Poe&x^Eve&y^z~A^B|C", "Poe", "Eve");
        does(BUSY, "ADT^A02\rPID|1|Poe^Eve\rPV1|A^0", "bedOf(1) = 0", "patient(0, 0) = 1", "patient(0, 1) = 0");
        does(BUSY, "ADT^A03\rPID|1|Poe^Eve", "bedOf(1) = -1", "patient(0, 1) = 0", "inBeds() = 1");
        does(BUSY, "ORU^R01\rPID|1|Poe^Eve\rOBX|ab|3", "result(1, a, b) = 3");
    }

    private void firstTwelveCharacters() {
        check.about("each is taken as it stands (its first 12 characters)");
        renames("|a^b", "a", "b");
        renames("|abcdefghijk^ABCDEFGHIJK", "abcdefghijk", "ABCDEFGHIJK");
        renames("|abcdefghijkl^ABCDEFGHIJKL", "abcdefghijkl", "ABCDEFGHIJKL");
        renames("|abcdefghijklm^ABCDEFGHIJKLM", "abcdefghijkl", "ABCDEFGHIJKL");
        renames("|" + "a".repeat(40) + "^" + "b".repeat(40), "a".repeat(12), "b".repeat(12));
        renames("| ^ b ", " ", " b ");
        // escapes count as the characters for which they stand
        renames("|\\F\\\\S\\\\R\\\\E\\\\T\\\\X20\\\\X7E\\12345^\\X41\\", "|^~\\& ~12345", "A");
        renames("|\\F\\\\S\\\\R\\\\E\\\\T\\\\X20\\\\X7E\\123456^\\X41\\", "|^~\\& ~12345", "A");
        // a shorter one leaves nothing of a longer one
        Story longer = BUSY.send(Check.HEAD + "n1|ADT^A08\rPID|1|abcdefghijklm^ABCDEFGHIJKLM");
        BedMessages x = longer.send(Check.HEAD + "n2|ADT^A08\rPID|1|xyz").tell();
        check.due("family name", Check.nameText(x, 1, 1), "xyz");
        check.due("first name", Check.nameText(x, 1, 2), "ABCDEFGHIJKL");
    }

    private void namesOfNoCharacters() {
        check.about("if it has characters");
        for (String field : new String[] {"", "|", "|^", "|^^x", "|&x^&y", "|~Poe^Eve", "||Poe^Eve"}) {
            renames(field, "Doe", "Ann");
        }
        renames("|Poe", "Poe", "Ann");
        renames("|Poe^", "Poe", "Ann");
        renames("|^Eve", "Doe", "Eve");
    }

    private void nullTakesNameAway() {
        check.about("NULL takes it away.");
        renames("|\"\"", "", "Ann");
        renames("|^\"\"", "Doe", "");
        renames("|\"\"^\"\"", "", "");
        renames("|\"^\"\"\"", "\"", "\"\"\"");
        renames("|\"\" ^ \"\"", "\"\" ", " \"\"");
        renames("|\"\"&x^\"\"&y", "", "");
        Story nameless = BUSY.send(Check.HEAD + "n1|ADT^A08\rPID|1|\"\"^\"\"");
        does(nameless, "ADT^A08\rPID|1|\"\"^\"\"");
        does(nameless, "ADT^A08\rPID|1");
        BedMessages x = does(BUSY, "ADT^A01\rPID|3|\"\"^\"\"\rPV1|A^0", "known(3) = 1", "bedOf(3) = 0", "patient(0, 0) = 3", "inBeds() = 3").tell();
        check.due("name of a new patient", x.name(3, 1, 0), BedMessages.NONE);
    }

    private void resultsInOrder() {
        check.about("R01: for each segment OBX in order, for each repetition of its field 2 in order: the patient's code has"
                + " this value then");
        does(BUSY, "ORU^R01\rPID|1\rOBX|ab|0", "result(1, a, b) = 0");
        does(BUSY, "ORU^R01\rPID|1\rOBX|ab|9999", "result(1, a, b) = 9999");
        does(BUSY, "ORU^R01\rPID|1\rOBX|ab|1~2~3", "result(1, a, b) = 3");
        does(BUSY, "ORU^R01\rPID|1\rOBX|ab|1~2\rOBX|ab|4~3", "result(1, a, b) = 3");
        does(BUSY, "ORU^R01\rPID|1\rOBX|aa|1\rOBX|zz|2\rOBX|aa|3", "result(1, a, a) = 3", "result(1, z, z) = 2", "results(1) = 4");
        does(BUSY, "ORU^R01\rPID|1\rOBX|ab|\"\"~5", "result(1, a, b) = 5");
        does(BUSY, "ORU^R01\rPID|1\rOBX|ab|\"\"\rABC\rOBX|ab|5", "result(1, a, b) = 5");
        // nearly as many repetitions as a frame has room for
        String many = "\rOBX|aa|1" + "~1".repeat(70) + "~7\rOBX|ab|7";
        does(BUSY, "ORU^R01\rPID|1" + many, "result(1, a, a) = 7", "result(1, a, b) = 7", "results(1) = 3");
    }

    private void nullTakesCodeAway() {
        check.about("NULL takes the code away.");
        does(BUSY, "ORU^R01\rPID|1\rOBX|ab|\"\"", "result(1, a, b) = -1", "results(1) = 1");
        does(BUSY, "ORU^R01\rPID|1\rOBX|cd|\"\"", "result(1, c, d) = -1", "results(1) = 1");
        does(BUSY, "ORU^R01\rPID|1\rOBX|ab|\"\"\rOBX|cd|\"\"", "result(1, a, b) = -1", "result(1, c, d) = -1", "results(1) = 0");
        does(BUSY, "ORU^R01\rPID|1\rOBX|ab|5~\"\"", "result(1, a, b) = -1", "results(1) = 1");
        // of codes that are not there nothing is taken
        does(BUSY, "ORU^R01\rPID|1\rOBX|aa|\"\"");
        does(BUSY, "ORU^R01\rPID|1\rOBX|aa|5~\"\"");
        does(BUSY, "ORU^R01\rPID|2\rOBX|ab|\"\"~\"\"");
    }

    private void stayWhenLeaving() {
        check.about("Results and names stay when the patient leaves.");
        BedMessages x = does(BUSY, "ADT^A03\rPID|1", "bedOf(1) = -1", "patient(0, 1) = 0", "inBeds() = 1").tell();
        check.due("family name", Check.nameText(x, 1, 1), "Doe");
        check.due("first name", Check.nameText(x, 1, 2), "Ann");
        check.due("ab", x.result(1, 'a', 'b'), 12);
        check.due("results(1)", x.results(1), 2);
        check.due("known(1)", x.known(1), true);
        does(LEFT, "ADT^A01\rPID|1\rPV1|C^4", "bedOf(1) = 20", "patient(2, 4) = 1", "inBeds() = 2");
        // and another one in the bed has a name and results of its own
        does(LEFT, "ADT^A01\rPID|3\rPV1|A^1", "known(3) = 1", "bedOf(3) = 1", "patient(0, 1) = 3", "inBeds() = 2");
    }
}
