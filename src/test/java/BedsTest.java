/** Promises 8 to 12: patient, bedOf, inBeds, known and name. */
public final class BedsTest {
    private static int sent = 0;

    public static void main(String[] args) {
        Check check = new Check();
        everyBed(check);
        noSuchBed(check);
        movesAndLeaves(check);
        names(check);
        namesLeftOut(check);
        check.finish();
    }

    private static int send(BedMessages x, String type, String segments) {
        sent++;
        return Check.send(x, Check.HEAD + "b" + sent + "|" + type + segments);
    }

    private static void everyBed(Check check) {
        BedMessages x = new BedMessages();
        for (int bed = 0; bed < 32; bed++) {
            String place = "ABCD".charAt(bed / 8) + "^" + bed % 8;
            check.due("admit to " + place, send(x, "ADT^A01", "\rPID|" + (99 - bed) + "\rPV1|" + place), 0);
            check.due("patient in " + place, x.patient(bed / 8, bed % 8), 99 - bed);
            check.due("bedOf(" + (99 - bed) + ")", x.bedOf(99 - bed), bed);
            check.due("known(" + (99 - bed) + ")", x.known(99 - bed), true);
            check.due("inBeds()", x.inBeds(), bed + 1);
        }
        check.due("known(67)", x.known(67), false);
    }

    private static void noSuchBed(Check check) {
        BedMessages x = new BedMessages();
        send(x, "ADT^A01", "\rPID|9\rPV1|A^0");
        int[] wrong = {-1, 8, 9, 100, Integer.MAX_VALUE, Integer.MIN_VALUE};
        for (int w : wrong) {
            check.due("patient(0, " + w + ")", x.patient(0, w), BedMessages.NONE);
            check.due("patient(" + w + ", 0)", x.patient(w, 0), BedMessages.NONE);
            check.due("bedOf(" + w + ")", x.bedOf(w), w == 9 ? 0 : BedMessages.NONE);
            check.due("known(" + w + ")", x.known(w), w == 9);
            check.due("name(" + w + ", 1, 0)", x.name(w, 1, 0), BedMessages.NONE);
        }
        check.due("patient(4, 0)", x.patient(4, 0), BedMessages.NONE);
        check.due("patient(3, 7)", x.patient(3, 7), 0);
        check.due("patient(3, 8)", x.patient(3, 8), BedMessages.NONE);
        check.due("patient(1, -8)", x.patient(1, -8), BedMessages.NONE);
        check.due("bedOf(0)", x.bedOf(0), BedMessages.NONE);
        check.due("known(0)", x.known(0), false);
    }

    private static void movesAndLeaves(Check check) {
        BedMessages x = new BedMessages();
        send(x, "ADT^A01", "\rPID|9|Doe^Ann\rPV1|A^0");
        check.due("move", send(x, "ADT^A02", "\rPID|9|Roe^Bea\rPV1|D^7"), BedMessages.ACCEPTED);
        check.due("bed that was left", x.patient(0, 0), 0);
        check.due("bed that was taken", x.patient(3, 7), 9);
        check.due("bedOf(9)", x.bedOf(9), 31);
        check.due("inBeds()", x.inBeds(), 1);
        check.due("A02 gives no name", Check.nameText(x, 9, 1), "Doe");
        check.due("leave", send(x, "ADT^A03", "\rPID|9|Roe^Bea"), BedMessages.ACCEPTED);
        check.due("bed that was left", x.patient(3, 7), 0);
        check.due("bedOf(9)", x.bedOf(9), BedMessages.NONE);
        check.due("inBeds()", x.inBeds(), 0);
        check.due("known(9)", x.known(9), true);
        check.due("A03 gives no name", Check.nameText(x, 9, 1), "Doe");
        check.due("admit another one", send(x, "ADT^A01", "\rPID|10\rPV1|D^7"), 0);
        check.due("admit again", send(x, "ADT^A01", "\rPID|9\rPV1|A^0"), 0);
        check.due("inBeds()", x.inBeds(), 2);
        check.due("name is kept", Check.nameText(x, 9, 2), "Ann");
    }

    private static void dueNames(Check check, BedMessages x, String family, String first) {
        check.due("family name", Check.nameText(x, 5, 1), family);
        check.due("first name", Check.nameText(x, 5, 2), first);
    }

    private static void names(Check check) {
        BedMessages x = new BedMessages();
        send(x, "ADT^A01", "\rPID|5|Doe^Ann\rPV1|A^0");
        dueNames(check, x, "Doe", "Ann");
        check.due("name(5, 1, 2)", x.name(5, 1, 2), 'e');
        for (int i : new int[] {-1, 3, 11, 12, Integer.MAX_VALUE, Integer.MIN_VALUE}) {
            check.due("name(5, 1, " + i + ")", x.name(5, 1, i), BedMessages.NONE);
        }
        for (int part : new int[] {-1, 0, 3, Integer.MAX_VALUE, Integer.MIN_VALUE}) {
            check.due("name(5, " + part + ", 0)", x.name(5, part, 0), BedMessages.NONE);
        }
        send(x, "ADT^A08", "\rPID|5|abcdefghijkl^abcdefghijklm");
        dueNames(check, x, "abcdefghijkl", "abcdefghijkl");
        send(x, "ADT^A08", "\rPID|5|\\F\\\\S\\\\R\\\\E\\\\T\\\\X41\\ 1234567");
        dueNames(check, x, "|^~\\&A 12345", "abcdefghijkl");
        send(x, "ADT^A08", "\rPID|5|a&b^c&d^e~f");
        dueNames(check, x, "a", "c");
        send(x, "ADT^A08", "\rPID|5|\"\"^\"\"\"");
        dueNames(check, x, "", "\"\"\"");
        send(x, "ADT^A08", "\rPID|5|\"^\"\"");
        dueNames(check, x, "\"", "");
        send(x, "ADT^A08", "\rPID|5| ^\"\"x");
        dueNames(check, x, " ", "\"\"x");
        send(x, "ADT^A08", "\rPID|5|\"\\X22\\");
        dueNames(check, x, "", "\"\"x");
    }

    private static void namesLeftOut(Check check) {
        BedMessages x = new BedMessages();
        send(x, "ADT^A01", "\rPID|5|Doe^Ann\rPV1|A^0");
        for (String fields : new String[] {"", "|", "|^", "|&x^&y", "|~Roe^Bea", "||Roe^Bea"}) {
            check.due("end()", send(x, "ADT^A08", "\rPID|5" + fields + "\rPID|5|Zoe^Zoe"), 0);
            dueNames(check, x, "Doe", "Ann");
        }
        send(x, "ADT^A08", "\rPID|5|^Bea");
        dueNames(check, x, "Doe", "Bea");
        send(x, "ADT^A03", "\rPID|5");
        dueNames(check, x, "Doe", "Bea");
        send(x, "ADT^A01", "\rPID|5|Roe\rPV1|A^0");
        dueNames(check, x, "Roe", "Bea");
        send(x, "ADT^A01", "\rPID|5|Poe\rPV1|A^0");
        dueNames(check, x, "Roe", "Bea");
        send(x, "ORU^R01", "\rPID|5|Poe\rOBX|ab|1");
        dueNames(check, x, "Roe", "Bea");
        check.due("another's name", Check.nameText(x, 6, 1), "");
    }
}
