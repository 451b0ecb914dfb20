/**
 * The promises 1 to 18, sentence by sentence: the last case on this side of a boundary, the first one
 * beyond it, and that a refused call, and one that only asks, changes nothing.
 */
public final class PromiseEdgesTest {
    private static final int NONE = BedMessages.NONE;
    private static final Story BUSY = Story.busy();
    private static final int[] FAR = {Integer.MIN_VALUE, -1000000, -256, 256, 1000000, Integer.MAX_VALUE - 1, Integer.MAX_VALUE};

    private final Check check = new Check();

    public static void main(String[] args) {
        PromiseEdgesTest test = new PromiseEdgesTest();
        test.newObject();
        test.upToFirstZero();
        test.wrongBytes();
        test.moreThanTwoHundred();
        test.nextFrame();
        test.reasonAndReplayed();
        test.receiptCharacters();
        test.beds();
        test.bedsOfPatients();
        test.countInBeds();
        test.knownOrNot();
        test.nameCharacters();
        test.resultsOfCodes();
        test.countOfCodes();
        test.latestMessage();
        test.textNumbers();
        test.textOfName();
        test.writeRefused();
        test.writeEverything();
        test.writeEscapes();
        test.writtenLast();
        test.askingChangesNothing();
        test.check.finish();
    }

    private void newObject() {
        check.about("No characters, no receipt, nobody known.");
        Story none = new Story();
        check.due("room", none.room(), 200);
        check.due("end()", none.end().lastAnswer(), BedMessages.REJECTED);
        check.due("reason() then", none.end().tell().reason(), 1);
        BedMessages x = none.tell();
        check.due("reason()", x.reason(), NONE);
        check.due("replayed()", x.replayed(), false);
        check.due("receiptLength()", x.receiptLength(), 0);
        check.due("receipt(0)", x.receipt(0), NONE);
        check.due("inBeds()", x.inBeds(), 0);
        check.due("segments()", x.segments(), 0);
        check.due("text(1, 0, 1, 1, 0)", x.text(1, 0, 1, 1, 0), NONE);
        check.due("write", Check.write(x, "|^~\\&"), NONE);
        check.due("written(0)", x.written(0), NONE);
        for (String line : none.wardState().split("\n")) {
            boolean counts = line.startsWith("inBeds") || line.startsWith("patient") || line.startsWith("known") || line.startsWith("results");
            check.due("of a new object", line.substring(line.indexOf(" = ")), counts ? " = 0" : " = -1");
        }
    }

    private void upToFirstZero() {
        check.about("from the lowest one on, up to the first byte 0 (or all eight). Answers how many");
        String begin = Check.HEAD + "id|";
        for (int many = 0; many <= 8; many++) {
            long text = Check.packed("abcdefgh".substring(0, many));
            // behind the byte 0 anything may stand
            long rest = many >= 7 ? 0 : -1L << 8 * (many + 1);
            for (long typed : new long[] {text, text | rest}) {
                Story story = BUSY.type(begin).call(x -> x.type(typed));
                check.due("type of " + many, story.lastAnswer(), many);
                BedMessages x = story.end().tell();
                check.due("characters of " + many, Check.partText(x, 1, 3, 1, 1), "abcdefgh".substring(0, many));
            }
        }
        check.due("type(Long.MIN_VALUE)", BUSY.call(x -> x.type(Long.MIN_VALUE)).lastAnswer(), 0);
    }

    private void wrongBytes() {
        check.about("NONE, changing nothing, when one of them is not 32 .. 126 or 13");
        Story begun = BUSY.type(Check.HEAD + "id|X");
        String want = begun.wholeState(Story.BUSY_IDENTITIES);
        for (int place = 0; place < 8; place++) {
            for (int c : new int[] {12, 14, 31, 127, 128, 255}) {
                long text = Check.packed("ABCDEFGH") & ~(255L << 8 * place) | (long) c << 8 * place;
                Story wrong = begun.call(x -> x.type(text));
                check.due("type of " + c + " at " + place, wrong.lastAnswer(), NONE);
                check.same("after " + c + " at " + place, wrong.wholeState(Story.BUSY_IDENTITIES), want);
            }
            for (int c : new int[] {13, 32, 126}) {
                long text = Check.packed("ABCDEFGH") & ~(255L << 8 * place) | (long) c << 8 * place;
                check.due("type of " + c + " at " + place, begun.call(x -> x.type(text)).lastAnswer(), 8);
            }
        }
    }

    private void moreThanTwoHundred() {
        check.about("or the frame would have more than 200.");
        String begin = Check.HEAD + "id|X|";
        for (int room = 0; room <= 9; room++) {
            Story story = BUSY.type(begin + "x".repeat(200 - room - begin.length()));
            String want = story.wholeState(Story.BUSY_IDENTITIES);
            for (int many = 0; many <= 8; many++) {
                Story more = story.type("y".repeat(many));
                if (many == 0) {
                    check.due("type(0) with room for " + room, story.call(x -> x.type(0)).lastAnswer(), 0);
                } else if (many <= room) {
                    check.due("type of " + many + " with room for " + room, more.lastAnswer(), many);
                    check.due("room", more.room(), room - many);
                } else {
                    check.due("type of " + many + " with room for " + room, more.lastAnswer(), NONE);
                    check.same("after " + many + " with room for " + room, more.wholeState(Story.BUSY_IDENTITIES), want);
                }
            }
        }
    }

    private void nextFrame() {
        check.about("The next frame has no characters then.");
        String[] frames = {"", "HDR", Check.HEAD + "id|\\", Check.HEAD + "id|X" + "\rABC".repeat(8), Check.HEAD, Check.HEAD + "id|X",
            Check.HEAD + "id|ADT^A08", Check.HEAD + "id|ADT^A08\rPID|1", Check.HEAD + "m1", Check.HEAD + "id|" + "x".repeat(184)};
        int[] reasons = {1, 2, 3, 4, 5, 6, 11, 0, 0, 6};
        for (int i = 0; i < frames.length; i++) {
            Story story = BUSY.send(frames[i]);
            check.due("reason() of " + Check.shown(frames[i]), story.tell().reason(), reasons[i]);
            check.due("room after " + Check.shown(frames[i]), story.room(), 200);
            check.due("reason() of nothing after it", story.end().tell().reason(), 1);
            check.due("reason() of the next", story.send(Check.HEAD + "nx|ADT^A08\rPID|2").tell().reason(), 0);
        }
    }

    private void reasonAndReplayed() {
        check.about("The reason of the latest receipt; NONE when there was none.");
        Story typed = new Story().type(Check.HEAD + "id|X");
        check.due("reason() before the first end", typed.tell().reason(), NONE);
        check.due("reason() after it", typed.end().tell().reason(), 6);
        check.due("reason() while the next is typed", typed.end().type("HDR").tell().reason(), 6);
        check.due("reason() after a refused type", typed.end().type("\t").tell().reason(), 6);
        check.about("Whether the latest receipt was REPLAYED.");
        check.due("before the first end", typed.tell().replayed(), false);
        Story once = BUSY.send(Check.HEAD + "id|ADT^A08");
        check.due("the first time", once.tell().replayed(), false);
        Story twice = once.send(Check.HEAD + "id|ADT^A08");
        check.due("the second time", twice.tell().replayed(), true);
        check.due("while the next is typed", twice.type("HDR").tell().replayed(), true);
        for (String frame : new String[] {"", "HDR", Check.HEAD + "id|\\", Check.HEAD, Check.HEAD + "nx|X", Check.HEAD + "nx|ADT^A08",
            Check.HEAD + "nx|ADT^A08\rPID|1"}) {
            check.due("after " + Check.shown(frame), twice.send(frame).tell().replayed(), false);
        }
    }

    private void receiptCharacters() {
        check.about("Character i of the latest receipt text, as a number; NONE when there is none.");
        BedMessages x = BUSY.send("HDR|^~\\&||abcdef|ADT^A08").tell();
        check.due("receiptLength()", x.receiptLength(), 40);
        check.due("receipt(-1)", x.receipt(-1), NONE);
        check.due("receipt(0)", x.receipt(0), 'H');
        check.due("receipt(23)", x.receipt(23), 13);
        check.due("receipt(39)", x.receipt(39), '1');
        check.due("receipt(40)", x.receipt(40), NONE);
        for (int far : FAR) {
            check.due("receipt(" + far + ")", x.receipt(far), NONE);
        }
        // a shorter text leaves nothing of a longer one
        BedMessages y = BUSY.sendAll("HDR|^~\\&||abcdef|ADT^A08", "HDR|^~\\&||a|X").tell();
        check.about("How many characters the latest receipt text has; 0 when there was none.");
        check.due("receiptLength()", y.receiptLength(), 29);
        check.due("receipt(28)", y.receipt(28), '6');
        check.due("receipt(29)", y.receipt(29), NONE);
        check.due("before the first end", new Story().type("HDR").tell().receiptLength(), 0);
    }

    private void beds() {
        check.about("ward 0 .. 3 for A .. D, bed 0 .. 7; 0 when nobody is, NONE when there is no such bed.");
        BedMessages x = BUSY.tell();
        for (int ward = -1; ward <= 4; ward++) {
            for (int bed = -1; bed <= 8; bed++) {
                boolean isBed = ward >= 0 && ward <= 3 && bed >= 0 && bed <= 7;
                int patient = ward == 0 && bed == 1 ? 1 : ward == 1 && bed == 2 ? 2 : 0;
                check.due("patient(" + ward + ", " + bed + ")", x.patient(ward, bed), isBed ? patient : NONE);
            }
        }
        // numbers that would fall on a bed if ward and bed were put together
        check.due("patient(0, 10)", x.patient(0, 10), NONE);
        check.due("patient(1, -7)", x.patient(1, -7), NONE);
        check.due("patient(-1, 9)", x.patient(-1, 9), NONE);
        check.due("patient(1 << 29, 1)", x.patient(1 << 29, 1), NONE);
        for (int far : FAR) {
            check.due("patient(" + far + ", 1)", x.patient(far, 1), NONE);
            check.due("patient(0, " + far + ")", x.patient(0, far), NONE);
        }
    }

    private void bedsOfPatients() {
        check.about("8 * ward + bed of a patient; NONE when in none.");
        Story edges = new Story().sendAll(Check.admit("a1", 1, "A^0"), Check.admit("a2", 99, "D^7"), Check.admit("a3", 50, "B^0"));
        BedMessages x = edges.tell();
        for (int patient = -1; patient <= 101; patient++) {
            int bed = patient == 1 ? 0 : patient == 99 ? 31 : patient == 50 ? 8 : NONE;
            check.due("bedOf(" + patient + ")", x.bedOf(patient), bed);
        }
        for (int far : FAR) {
            check.due("bedOf(" + far + ")", x.bedOf(far), NONE);
        }
        check.due("bedOf(99) who left", edges.send(Check.HEAD + "a4|ADT^A03\rPID|99").tell().bedOf(99), NONE);
    }

    private void countInBeds() {
        check.about("How many patients are in beds.");
        Story story = new Story();
        for (int n = 0; n <= 32; n++) {
            check.due("inBeds()", story.tell().inBeds(), n);
            String bed = "" + "ABCDE".charAt(n / 8) + "^" + n % 8;
            story = story.send("HDR|^~\\&||b" + n + "|ADT^A01\rPID|" + (1 + n) + "\rPV1|" + bed);
        }
        check.due("inBeds() after a bed that is none", story.tell().inBeds(), 32);
        for (int n = 31; n >= 29; n--) {
            story = story.send("HDR|^~\\&||l" + n + "|ADT^A03\rPID|" + n);
            check.due("inBeds() after one left", story.tell().inBeds(), n);
        }
    }

    private void knownOrNot() {
        check.about("Whether a patient is KNOWN.");
        Story edges = new Story().sendAll(Check.admit("a1", 1, "A^0"), Check.admit("a2", 99, "D^7"));
        BedMessages x = edges.tell();
        for (int patient = -1; patient <= 101; patient++) {
            check.due("known(" + patient + ")", x.known(patient), patient == 1 || patient == 99);
        }
        for (int far : FAR) {
            check.due("known(" + far + ")", x.known(far), false);
        }
        check.due("known(99) who left", edges.send(Check.HEAD + "a4|ADT^A03\rPID|99").tell().known(99), true);
    }

    private void nameCharacters() {
        check.about("Character i of a patient's family name (part 1) or first name (part 2), as a number; NONE when there is"
                + " none.");
        BedMessages x = BUSY.send(Check.HEAD + "id|ADT^A08\rPID|1|abcdefghijklm^xyz").tell();
        for (int part = -1; part <= 4; part++) {
            for (int i = -1; i <= 13; i++) {
                String name = part == 1 ? "abcdefghijkl" : part == 2 ? "xyz" : "";
                int want = i >= 0 && i < name.length() ? name.charAt(i) : NONE;
                check.due("name(1, " + part + ", " + i + ")", x.name(1, part, i), want);
            }
        }
        for (int far : FAR) {
            check.due("name(" + far + ", 1, 0)", x.name(far, 1, 0), NONE);
            check.due("name(1, " + far + ", 0)", x.name(1, far, 0), NONE);
            check.due("name(1, 1, " + far + ")", x.name(1, 1, far), NONE);
        }
        for (int patient : new int[] {-1, 0, 3, 100, 101}) {
            check.due("name(" + patient + ", 1, 0)", x.name(patient, 1, 0), NONE);
        }
    }

    private void resultsOfCodes() {
        check.about("The value of a patient's code, the two letters of which are given; NONE when it has none.");
        BedMessages x = BUSY.send(Check.HEAD + "id|ORU^R01\rPID|1\rOBX|aa|0\rOBX|zz|9999\rOBX|ba|1~\"\"\rOBX|az|5").tell();
        check.due("aa", x.result(1, 'a', 'a'), 0);
        check.due("zz", x.result(1, 'z', 'z'), 9999);
        check.due("ba", x.result(1, 'b', 'a'), NONE);
        check.due("ab", x.result(1, 'a', 'b'), 12);
        for (char c : new char[] {0, '`', '{', 'A', 'Z', '0', ' ', '"', 'a' + 128, 'a' + 256, 65535}) {
            check.due("a and " + (int) c, x.result(1, 'a', c), NONE);
            check.due("z and " + (int) c, x.result(1, 'z', c), NONE);
            check.due((int) c + " and a", x.result(1, c, 'a'), NONE);
            check.due((int) c + " and z", x.result(1, c, 'z'), NONE);
        }
        for (int patient : new int[] {-1, 0, 2, 3, 99, 100}) {
            check.due("aa of " + patient, x.result(patient, 'a', 'a'), NONE);
        }
        for (int far : FAR) {
            check.due("aa of " + far, x.result(far, 'a', 'a'), NONE);
        }
    }

    private void countOfCodes() {
        check.about("How many codes of a patient have values.");
        Story story = new Story().send(Check.admit("a1", 1, "A^0"));
        for (int n = 0; n <= 12; n++) {
            check.due("results(1)", story.tell().results(1), n);
            story = story.send(Check.HEAD + "r" + n + "|ORU^R01\rPID|1\rOBX|a" + (char) ('a' + n) + "|" + n);
        }
        check.due("results(1) after a 13th", story.tell().results(1), 12);
        check.due("the 13th", story.tell().result(1, 'a', 'm'), NONE);
        for (int n = 11; n >= 0; n--) {
            story = story.send(Check.HEAD + "n" + n + "|ORU^R01\rPID|1\rOBX|a" + (char) ('a' + n) + "|\"\"");
            check.due("results(1) after one was taken away", story.tell().results(1), n);
        }
        for (int patient : new int[] {-1, 0, 2, 99, 100, Integer.MAX_VALUE, Integer.MIN_VALUE}) {
            check.due("results(" + patient + ")", story.tell().results(patient), 0);
        }
    }

    private void latestMessage() {
        check.about("How many segments the LATEST MESSAGE has: that of the latest frame that was not REJECTED with 1 to 5"
                + " (replayed ones too); 0 when there was none.");
        String[] refused = {"", "HDR", Check.HEAD + "id|\\\rABC", Check.HEAD + "id|X" + "\rABC".repeat(8), Check.HEAD + "\rABC"};
        for (String frame : refused) {
            check.due("segments() of none", new Story().send(frame).tell().segments(), 0);
            check.due("segments() as before", BUSY.send(frame).tell().segments(), 2);
        }
        String[] frames = {"id|X", "id|ADT^A08", "id|ADT^A08\rPID|1", "m1"};
        for (String frame : frames) {
            for (int more = 0; more <= 5; more++) {
                String whole = Check.HEAD + frame + "\rABC|x".repeat(more);
                int want = 1 + more + (frame.contains("PID") ? 1 : 0);
                check.due("segments() of " + Check.shown(whole), BUSY.send(whole).tell().segments(), want);
            }
        }
        check.due("segments() of one", BUSY.send("HDR|^~\\&||i").tell().segments(), 1);
        check.due("segments() of eight", BUSY.send("HDR|^~\\&||i" + "\rABC".repeat(7)).tell().segments(), 8);
        check.due("segments() while one is typed", BUSY.type("HDR|^~\\&||i").tell().segments(), 2);
    }

    private void textNumbers() {
        check.about("segment s from 1 on (the header is 1), field, repetition and component as given, sub 1");
        Story story = BUSY.send("HDR|^~\\&|h1|id|X\rABC|a11&no^a12~a21^a22||b11\rDEF|last");
        String[][] parts = {{"1 1 1 1", "h1"}, {"1 2 1 1", "id"}, {"1 3 1 1", "X"}, {"2 1 1 1", "a11"}, {"2 1 1 2", "a12"},
            {"2 1 2 1", "a21"}, {"2 1 2 2", "a22"}, {"2 3 1 1", "b11"}, {"3 1 1 1", "last"}, {"1 0 1 1", "HDR"}, {"2 0 1 1", "ABC"},
            {"3 0 1 1", "DEF"}};
        java.util.Map<String, String> want = new java.util.HashMap<>();
        for (String[] part : parts) {
            want.put(part[0], part[1]);
        }
        for (int s = -1; s <= 9; s++) {
            BedMessages x = story.tell();
            for (int n = 0; n < 6 * 4 * 4; n++) {
                int field = n / 16 - 1;
                int repetition = n / 4 % 4;
                int component = n % 4;
                String part = s + " " + field + " " + repetition + " " + component;
                check.due("text " + part, Check.partText(x, s, field, repetition, component), want.getOrDefault(part, ""));
            }
        }
        check.about("NONE when there is none.");
        BedMessages x = story.tell();
        check.due("i -1", x.text(2, 1, 1, 1, -1), NONE);
        check.due("i 0", x.text(2, 1, 1, 1, 0), 'a');
        check.due("i 2", x.text(2, 1, 1, 1, 2), '1');
        check.due("i 3", x.text(2, 1, 1, 1, 3), NONE);
        check.due("i 4, in sub 2", x.text(2, 1, 1, 1, 4), NONE);
        for (int far : FAR) {
            check.due("s " + far, x.text(far, 1, 1, 1, 0), NONE);
            check.due("field " + far, x.text(2, far, 1, 1, 0), NONE);
            check.due("repetition " + far, x.text(2, 1, far, 1, 0), NONE);
            check.due("component " + far, x.text(2, 1, 1, far, 0), NONE);
            check.due("i " + far, x.text(2, 1, 1, 1, far), NONE);
        }
    }

    private void textOfName() {
        check.about("field 0 is the name of the segment (H D R for the header; repetition and component must be 1).");
        BedMessages x = BUSY.send("HDR|^~\\&|h1|id\rA09|x\rHDR").tell();
        String[] names = {"HDR", "A09", "HDR"};
        for (int s = 1; s <= 3; s++) {
            for (int i = -1; i <= 4; i++) {
                int want = i >= 0 && i < 3 ? names[s - 1].charAt(i) : NONE;
                check.due("text(" + s + ", 0, 1, 1, " + i + ")", x.text(s, 0, 1, 1, i), want);
            }
            for (int other : new int[] {-1, 0, 2, 3}) {
                check.due("text(" + s + ", 0, " + other + ", 1, 0)", x.text(s, 0, other, 1, 0), NONE);
                check.due("text(" + s + ", 0, 1, " + other + ", 0)", x.text(s, 0, 1, other, 0), NONE);
            }
        }
        check.due("name of segment 0", x.text(0, 0, 1, 1, 0), NONE);
        check.due("name of segment 4", x.text(4, 0, 1, 1, 0), NONE);
    }

    private void writeRefused() {
        check.about("NONE when there is no latest message or the separators are not as they must be.");
        for (Story none : new Story[] {new Story(), new Story().send(""), new Story().send("HDR|^~\\&|x"), new Story().type(Check.HEAD + "id")}) {
            Story story = none.write("|^~\\&");
            check.due("write of no message", story.lastAnswer(), NONE);
            check.same("after it", story.wholeState("id"), none.wholeState("id"));
        }
        String want = BUSY.wholeState(Story.BUSY_IDENTITIES);
        String usual = "$%(){";
        for (int place = 0; place < 5; place++) {
            for (char c : (" \"09AZaz" + (char) 0 + (char) 13 + (char) 31 + (char) 127 + (char) 128 + (char) 289 + (char) 65535).toCharArray()) {
                Story story = BUSY.write(usual.substring(0, place) + c + usual.substring(place + 1));
                check.due("write with " + (int) c + " at " + place, story.lastAnswer(), NONE);
                check.same("after " + (int) c + " at " + place, story.wholeState(Story.BUSY_IDENTITIES), want);
            }
            for (char c : "!#/:@[`|~".toCharArray()) {
                Story story = BUSY.write(usual.substring(0, place) + c + usual.substring(place + 1));
                check.due("write with " + c + " at " + place, story.lastAnswer() > 0, true);
            }
            for (int other = 0; other < 5; other++) {
                char[] five = usual.toCharArray();
                five[place] = five[other];
                check.due("write with two alike", BUSY.write(new String(five)).lastAnswer() > 0, place == other);
            }
        }
    }

    private void writes(String frame, String want) {
        Story story = new Story().send(frame).write("#!*+-");
        check.due("write of " + Check.shown(frame), story.lastAnswer(), want.length());
        BedMessages x = story.tell();
        check.due("written of " + Check.shown(frame), Check.writtenText(x), want);
        check.due("written(-1)", x.written(-1), NONE);
        check.due("written at the end", x.written(want.length() - 1), want.charAt(want.length() - 1));
        check.due("written behind the end", x.written(want.length()), NONE);
        for (int far : FAR) {
            check.due("written(" + far + ")", x.written(far), far > 0 && far < want.length() ? want.charAt(far) : NONE);
        }
        // what was written is read again as the same message, and writing changes no message
        check.same("the message written", new Story().send(want).messageState(), new Story().send(frame).messageState());
        check.same("the message after writing", story.messageState(), new Story().send(frame).messageState());
    }

    private void writeEverything() {
        check.about("segments with characters 13 between them; all fields up to the last one that was there, likewise"
                + " repetitions, components and subs, also those without characters");
        writes("HDR|^~\\&||a", "HDR#!*+-##a");
        writes("HDR|^~\\&||a\r", "HDR#!*+-##a");
        writes("HDR|^~\\&||a|", "HDR#!*+-##a#");
        writes("HDR|^~\\&||a||||", "HDR#!*+-##a####");
        writes("HDR|^~\\&||a\rABC", "HDR#!*+-##a\rABC");
        writes("HDR|^~\\&||a\rABC|\r", "HDR#!*+-##a\rABC#");
        writes("HDR|^~\\&||a\rABC||\rABC|~|^|&\rABC|~~|^^|&&", "HDR#!*+-##a\rABC##\rABC#*#!#-\rABC#**#!!#--");
        writes("HDR|^~\\&|x~|a^|&y|~^&z\rABC|x^|x&|x~", "HDR#!*+-#x*#a!#-y#*!-z\rABC#x!#x-#x*");
        writes("HDR|^~\\&||a" + "\rABC".repeat(7), "HDR#!*+-##a" + "\rABC".repeat(7));
        writes("HDR|^~\\&||a|" + "|".repeat(188), "HDR#!*+-##a#" + "#".repeat(188));
    }

    private void writeEscapes() {
        check.about("in texts escapes with letters for these separators alone.");
        writes("HDR|^~\\&||a|#!*+-", "HDR#!*+-##a#+F++S++R++E++T+");
        writes("HDR|^~\\&||a|\\F\\\\S\\\\R\\\\E\\\\T\\", "HDR#!*+-##a#|^~\\&");
        writes("HDR|^~\\&||a|\\X23\\\\X2B\\\\X20\\\\X7E\\\\X41\\", "HDR#!*+-##a#+F++E+ ~A");
        writes("HDR|^~\\&||a|F\\X2B\\F\\X2B\\X", "HDR#!*+-##a#F+E+F+E+X");
        // each of 188 characters becomes three
        Story longest = new Story().send("HDR|^~\\&||a|" + "-".repeat(188)).write("#!*+-");
        check.due("write of the longest", longest.lastAnswer(), 12 + 3 * 188);
        BedMessages x = longest.tell();
        check.due("written(575)", x.written(575), '+');
        check.due("written(574)", x.written(574), 'T');
        check.due("written(576)", x.written(576), NONE);
    }

    private void writtenLast() {
        check.about("Character i of what write wrote last with an answer above 0, as a number; NONE when there is none.");
        check.due("written(0) before", new Story().send(Check.HEAD + "id").tell().written(0), NONE);
        String want = BUSY.writtenState();
        check.same("after a refused write", BUSY.write("#!*+#").writtenState(), want);
        check.same("after another message", BUSY.send(Check.HEAD + "id|X").writtenState(), want);
        check.same("after no message", BUSY.send("").writtenState(), want);
        Story shorter = BUSY.send("HDR|^~\\&||i").write("|^~\\&");
        check.due("a shorter one", Check.writtenText(shorter.tell()), "HDR|^~\\&||i");
        Story refused = shorter.send(Check.HEAD + "id|X").write("|^~\\|");
        check.due("a refused one then", Check.writtenText(refused.tell()), "HDR|^~\\&||i");
    }

    private void askingChangesNothing() {
        check.about("Nothing is promised beyond the answers and state changes described above");
        for (Story story : new Story[] {new Story(), BUSY, BUSY.type(Check.HEAD + "id|X")}) {
            String want = story.wholeState(Story.BUSY_IDENTITIES);
            Story asked = story;
            for (int n : new int[] {Integer.MIN_VALUE, -1, 0, 1, 2, 8, 99, 100, Integer.MAX_VALUE}) {
                asked = asked.call(x -> x.receipt(n)).call(x -> x.patient(n, n)).call(x -> x.bedOf(n)).call(x -> x.known(n) ? 1 : 0)
                        .call(x -> x.name(n, n, n)).call(x -> x.name(1, n, 0)).call(x -> x.result(n, 'a', 'b')).call(x -> x.results(n))
                        .call(x -> x.result(1, (char) n, (char) n)).call(x -> x.text(n, n, n, n, n)).call(x -> x.text(1, n, 1, 1, n))
                        .call(x -> x.written(n)).call(BedMessages::reason).call(x -> x.replayed() ? 1 : 0)
                        .call(BedMessages::receiptLength).call(BedMessages::inBeds).call(BedMessages::segments);
            }
            check.same("after asking", asked.wholeState(Story.BUSY_IDENTITIES), want);
        }
    }
}
