/**
 * Takes messages about patients in frames of segments and fields, answers each with a receipt, and
 * keeps who lies in which bed and what was measured.
 */
public final class BedMessages {
    public static final int NONE = -1;
    public static final int ACCEPTED = 0, ERROR = 1, REJECTED = 2;

    private static final int MOST_CHARACTERS = 200;
    private static final int MOST_SEGMENTS = 8;
    private static final int MOST_IDENTITY = 6;
    private static final int MOST_NAME = 12;
    private static final int MOST_CODES = 12;
    private static final int MOST_PATIENT = 99;
    private static final int REMEMBERED = 16;
    private static final int WARDS = 4;
    private static final int BEDS_IN_WARD = 8;
    /** A receipt text has at most 40 characters. */
    private static final int MOST_RECEIPT = 40;
    /** Each character of a frame may have to be written as an escape of three. */
    private static final int MOST_WRITTEN = 3 * MOST_CHARACTERS;

    private static final int SEGMENT_END = 13;
    private static final String HEADER = "HDR";
    private static final String NULL = "\"\"";

    private static final int SEPARATORS = 5;
    private static final int FIELD = 0;
    private static final int COMPONENT = 1;
    private static final int REPEAT = 2;
    private static final int ESCAPE = 3;
    private static final int SUB = 4;
    private static final String ESCAPE_LETTERS = "FSRET";

    private static final int NO_HEADER = 1;
    private static final int WRONG_SEPARATORS = 2;
    private static final int MALFORMED = 3;
    private static final int TOO_MANY_SEGMENTS = 4;
    private static final int NO_IDENTITY = 5;
    private static final int NO_TYPE = 6;
    private static final int NO_PATIENT = 11;
    private static final int NO_BED = 12;
    private static final int NOT_IN_BED = 13;
    private static final int IN_BED_ALREADY = 14;
    private static final int BED_TAKEN = 15;
    private static final int NOT_KNOWN = 16;
    private static final int WRONG_RESULT = 17;
    private static final int TOO_MANY_CODES = 18;

    private static final Kind[] KINDS = Kind.values();

    private final Frame frame = new Frame();
    private final Hospital hospital = new Hospital();
    private final Ledger ledger = new Ledger();
    private final Separators asked = new Separators();
    private final Chars receiptText = new Chars(MOST_RECEIPT);
    private final Chars writtenText = new Chars(MOST_WRITTEN);
    /** The frame is read into a spare message, so that a refused one leaves the latest as it was. */
    private Message spare = new Message();
    private Message latest = new Message();
    private int latestReason = NONE;
    private boolean latestReplayed = false;

    public BedMessages() {
    }

    public int type(long text) {
        int count = 0;
        while (count < 8 && byteOf(text, count) != 0) {
            if (!mayStandInFrame(byteOf(text, count))) {
                return NONE;
            }
            count++;
        }
        if (count > frame.typed.room()) {
            return NONE;
        }
        for (int i = 0; i < count; i++) {
            frame.typed.put(byteOf(text, i));
        }
        return count;
    }

    public int end() {
        latestReplayed = false;
        receiptText.clear();
        latestReason = frame.readInto(spare);
        frame.typed.clear();
        if (latestReason == 0 && spare.identity() == 0) {
            latestReason = NO_IDENTITY;
        }
        if (latestReason != 0) {
            return REJECTED;
        }
        Message read = spare;
        spare = latest;
        latest = read;
        latestReason = reasonOfLatest();
        writeReceipt();
        return receiptFor(latestReason);
    }

    public int reason() {
        return latestReason;
    }

    public boolean replayed() {
        return latestReplayed;
    }

    public int receiptLength() {
        return receiptText.length;
    }

    public int receipt(int i) {
        return receiptText.at(i);
    }

    public int patient(int ward, int bed) {
        if (ward < 0 || ward >= WARDS || bed < 0 || bed >= BEDS_IN_WARD) {
            return NONE;
        }
        return hospital.patientIn(BEDS_IN_WARD * ward + bed);
    }

    public int bedOf(int patient) {
        Patient found = hospital.find(patient);
        return found == null ? NONE : found.bed;
    }

    public int inBeds() {
        return hospital.countInBeds();
    }

    public boolean known(int patient) {
        return hospital.find(patient) != null;
    }

    public int name(int patient, int part, int i) {
        Patient found = hospital.find(patient);
        if (found == null || part < 1 || part > 2) {
            return NONE;
        }
        return part == 1 ? found.family.at(i) : found.first.at(i);
    }

    public int result(int patient, char first, char second) {
        Patient found = hospital.find(patient);
        return found == null ? NONE : found.measured.valueOf(codeOf(first, second));
    }

    public int results(int patient) {
        Patient found = hospital.find(patient);
        return found == null ? 0 : found.measured.count;
    }

    public int segments() {
        return latest.segmentCount;
    }

    public int text(int s, int field, int repetition, int component, int i) {
        return latest.character(latest.find(s, field, repetition, component), i);
    }

    public int write(char field, char component, char repeat, char escape, char sub) {
        asked.set(FIELD, field);
        asked.set(COMPONENT, component);
        asked.set(REPEAT, repeat);
        asked.set(ESCAPE, escape);
        asked.set(SUB, sub);
        if (latest.segmentCount == 0 || !asked.areProper()) {
            return NONE;
        }
        writtenText.clear();
        latest.writeTo(writtenText, asked);
        return writtenText.length;
    }

    public int written(int i) {
        return writtenText.at(i);
    }

    private static int byteOf(long text, int i) {
        return (int) (text >>> (8 * i)) & 255;
    }

    private static boolean mayStandInFrame(int c) {
        return isBetween(c, 32, 126) || c == SEGMENT_END;
    }

    private static boolean isBetween(int c, int low, int high) {
        return c >= low && c <= high;
    }

    private static boolean isCapital(int c) {
        return isBetween(c, 'A', 'Z');
    }

    private static boolean isSmall(int c) {
        return isBetween(c, 'a', 'z');
    }

    private static boolean isDigit(int c) {
        return isBetween(c, '0', '9');
    }

    private static boolean isLetterOrDigit(int c) {
        return isCapital(c) || isSmall(c) || isDigit(c);
    }

    /** A code as one number, NONE when it is not two small letters. */
    private static int codeOf(int first, int second) {
        return isSmall(first) && isSmall(second) ? 26 * (first - 'a') + second - 'a' : NONE;
    }

    private static int receiptFor(int reason) {
        if (reason == 0) {
            return ACCEPTED;
        }
        return reason >= NO_PATIENT ? ERROR : REJECTED;
    }

    private int reasonOfLatest() {
        long identity = latest.identity();
        int remembered = ledger.reasonOf(identity);
        if (remembered != NONE) {
            latestReplayed = true;
            return remembered;
        }
        Kind kind = latest.kind();
        if (kind == null) {
            return NO_TYPE;
        }
        int reason = hospital.take(latest, kind);
        ledger.add(identity, reason);
        return reason;
    }

    private void writeReceipt() {
        receiptText.putAll(HEADER);
        latest.separators.putAllTo(receiptText);
        writeReceiptField("ENG");
        writeReceiptIdentity();
        writeReceiptField("ACK");
        receiptText.put(SEGMENT_END);
        receiptText.putAll("MSA");
        int receipt = receiptFor(latestReason);
        writeReceiptField(receipt == ACCEPTED ? "AA" : receipt == ERROR ? "AE" : "AR");
        writeReceiptIdentity();
        writeReceiptField("");
        if (latestReason >= 10) {
            receiptText.put('0' + latestReason / 10);
        }
        receiptText.put('0' + latestReason % 10);
    }

    private void writeReceiptField(String text) {
        receiptText.put(latest.separators.at(FIELD));
        receiptText.putAll(text);
    }

    private void writeReceiptIdentity() {
        receiptText.put(latest.separators.at(FIELD));
        latest.copyText(latest.find(1, 2, 1, 1), receiptText);
    }

    /** The types of messages that are understood. */
    private enum Kind {
        ADMIT("ADT", "A01"), MOVE("ADT", "A02"), LEAVE("ADT", "A03"), RENAME("ADT", "A08"),
        MEASURE("ORU", "R01");

        private final String group;
        private final String event;

        Kind(String group, String event) {
            this.group = group;
            this.event = event;
        }
    }

    /** A text in a row that is made once and used again; what does not fit is left out. */
    private static final class Chars {
        private final char[] row;
        private int length = 0;

        Chars(int most) {
            row = new char[most];
        }

        void clear() {
            length = 0;
        }

        int room() {
            return row.length - length;
        }

        int at(int i) {
            return i < 0 || i >= length ? NONE : row[i];
        }

        void put(int c) {
            if (length < row.length) {
                row[length] = (char) c;
                length++;
            }
        }

        void putAll(String text) {
            for (int i = 0; i < text.length(); i++) {
                put(text.charAt(i));
            }
        }

        boolean beginsWith(String text) {
            for (int i = 0; i < text.length(); i++) {
                if (at(i) != text.charAt(i)) {
                    return false;
                }
            }
            return true;
        }
    }

    /** The five separators, each at its place FIELD .. SUB. */
    private static final class Separators {
        private final int[] five = new int[SEPARATORS];

        void set(int place, int c) {
            if (place >= 0 && place < SEPARATORS) {
                five[place] = c;
            }
        }

        int at(int place) {
            return place < 0 || place >= SEPARATORS ? NONE : five[place];
        }

        /** The place of a character, NONE when it is no separator. */
        int placeOf(int c) {
            for (int place = 0; place < SEPARATORS; place++) {
                if (five[place] == c) {
                    return place;
                }
            }
            return NONE;
        }

        boolean areProper() {
            for (int place = 0; place < SEPARATORS; place++) {
                int c = five[place];
                boolean isFirst = placeOf(c) == place;
                if (!isFirst || !isBetween(c, 33, 126) || isLetterOrDigit(c) || c == '"') {
                    return false;
                }
            }
            return true;
        }

        void putAllTo(Chars out) {
            for (int place = 0; place < SEPARATORS; place++) {
                out.put(five[place]);
            }
        }

        void putTextCharacter(int c, Chars out) {
            int place = placeOf(c);
            if (place == NONE) {
                out.put(c);
                return;
            }
            out.put(five[ESCAPE]);
            out.put(ESCAPE_LETTERS.charAt(place));
            out.put(five[ESCAPE]);
        }
    }

    /** The characters that were typed, and how they are read. */
    private static final class Frame {
        private static final int HEADER_LENGTH = 8;
        private static final int NAME_LENGTH = 3;
        private final Chars typed = new Chars(MOST_CHARACTERS);

        /** Answers the reason 1 .. 4 why the frame is no message, 0 when it is one. */
        int readInto(Message message) {
            message.clear();
            if (!typed.beginsWith(HEADER)) {
                return NO_HEADER;
            }
            // a segment that ends too early gives NONE or 13 here, neither of which is proper
            for (int place = 0; place < SEPARATORS; place++) {
                message.separators.set(place, typed.at(NAME_LENGTH + place));
            }
            if (!message.separators.areProper()) {
                return WRONG_SEPARATORS;
            }
            if (!readSegments(message)) {
                return MALFORMED;
            }
            return message.segmentCount > MOST_SEGMENTS ? TOO_MANY_SEGMENTS : 0;
        }

        private boolean readSegments(Message message) {
            int begin = 0;
            for (int at = 0; at < typed.length; at++) {
                if (typed.at(at) == SEGMENT_END) {
                    if (!readSegment(message, begin, at)) {
                        return false;
                    }
                    begin = at + 1;
                }
            }
            return begin == typed.length || readSegment(message, begin, typed.length);
        }

        private boolean readSegment(Message message, int begin, int end) {
            boolean isHeader = begin == 0;
            if (!isHeader && !isName(begin)) {
                return false;
            }
            message.startSegment();
            for (int i = 0; i < NAME_LENGTH; i++) {
                message.add(typed.at(begin + i));
            }
            return readFields(message, begin + (isHeader ? HEADER_LENGTH : NAME_LENGTH), end);
        }

        private boolean isName(int begin) {
            int second = typed.at(begin + 1);
            int third = typed.at(begin + 2);
            return isCapital(typed.at(begin)) && (isCapital(second) || isDigit(second))
                    && (isCapital(third) || isDigit(third));
        }

        private boolean readFields(Message message, int begin, int end) {
            if (begin < end && typed.at(begin) != message.separators.at(FIELD)) {
                return false;
            }
            int taken = 0;
            for (int at = begin; at < end; at += taken) {
                taken = readSign(message, at);
                if (taken < 1) {
                    return false;
                }
            }
            return true;
        }

        /** Answers how many characters the sign takes in the frame, 0 when it is a wrong escape. */
        private int readSign(Message message, int at) {
            int c = typed.at(at);
            int place = message.separators.placeOf(c);
            if (place == ESCAPE) {
                return readEscape(message, at);
            }
            message.add(place == NONE ? c : Message.MARK + place);
            return 1;
        }

        private int readEscape(Message message, int at) {
            int letter = typed.at(at + 1);
            int place = letter == NONE ? NONE : ESCAPE_LETTERS.indexOf((char) letter);
            if (place >= 0 && endsEscape(message, at + 2)) {
                message.add(message.separators.at(place));
                return 3;
            }
            int c = letter == 'X' ? hexadecimal(at + 2) : NONE;
            if (isBetween(c, 32, 126) && endsEscape(message, at + 4)) {
                message.add(c);
                return 5;
            }
            return 0;
        }

        private boolean endsEscape(Message message, int at) {
            return typed.at(at) == message.separators.at(ESCAPE);
        }

        private int hexadecimal(int at) {
            int high = digitValue(typed.at(at));
            int low = digitValue(typed.at(at + 1));
            return high == NONE || low == NONE ? NONE : 16 * high + low;
        }

        private static int digitValue(int c) {
            if (isDigit(c)) {
                return c - '0';
            }
            return isBetween(c, 'A', 'F') ? c - 'A' + 10 : NONE;
        }
    }

    /**
     * A message as a row of signs: characters of texts, escapes undone, stand for themselves, and
     * separators are marks, so that no sign depends on which separators the frame had.
     */
    private static final class Message {
        private static final int MARK = 256;
        private static final int SEGMENT_MARK = MARK + SEPARATORS;
        private final Separators separators = new Separators();
        private final int[] signs = new int[MOST_CHARACTERS];
        private final int[] starts = new int[MOST_SEGMENTS];
        private int length = 0;
        private int segmentCount = 0;

        void clear() {
            length = 0;
            segmentCount = 0;
        }

        void add(int sign) {
            if (length < MOST_CHARACTERS) {
                signs[length] = sign;
                length++;
            }
        }

        void startSegment() {
            if (segmentCount > 0) {
                add(SEGMENT_MARK);
            }
            if (segmentCount < MOST_SEGMENTS) {
                starts[segmentCount] = length;
            }
            segmentCount++;
        }

        private int signAt(int at) {
            return at < 0 || at >= length ? SEGMENT_MARK : signs[at];
        }

        /** Where sub 1 of a component begins, NONE when it is not there. */
        int find(int segment, int field, int repetition, int component) {
            if (segment < 1 || segment > segmentCount || segment > MOST_SEGMENTS) {
                return NONE;
            }
            int f = 0;
            int r = 1;
            int c = 1;
            for (int at = starts[segment - 1]; at <= length; at++) {
                // of the places that have these numbers the first one is the beginning
                if (f == field && r == repetition && c == component) {
                    return at;
                }
                int sign = signAt(at);
                if (sign == SEGMENT_MARK) {
                    return NONE;
                }
                if (sign == MARK + FIELD) {
                    f++;
                    r = 1;
                    c = 1;
                } else if (sign == MARK + REPEAT) {
                    r++;
                    c = 1;
                } else if (sign == MARK + COMPONENT) {
                    c++;
                }
            }
            return NONE;
        }

        /** Where the repetition behind the one that begins here begins, NONE when it is the last. */
        int nextRepetition(int begin) {
            for (int at = begin; at < length; at++) {
                int sign = signAt(at);
                if (sign == MARK + REPEAT) {
                    return at + 1;
                }
                if (sign == MARK + FIELD || sign == SEGMENT_MARK) {
                    return NONE;
                }
            }
            return NONE;
        }

        int textLength(int begin) {
            int count = 0;
            if (begin >= 0) {
                while (begin + count < length && signAt(begin + count) < MARK) {
                    count++;
                }
            }
            return count;
        }

        int character(int begin, int i) {
            return i < 0 || i >= textLength(begin) ? NONE : signAt(begin + i);
        }

        boolean says(int begin, String word) {
            if (textLength(begin) != word.length()) {
                return false;
            }
            for (int i = 0; i < word.length(); i++) {
                if (signAt(begin + i) != word.charAt(i)) {
                    return false;
                }
            }
            return true;
        }

        void copyText(int begin, Chars out) {
            int count = textLength(begin);
            for (int i = 0; i < count; i++) {
                out.put(signAt(begin + i));
            }
        }

        /** The number that one to so many digits tell, NONE when the text is something else. */
        int number(int begin, int mostDigits) {
            int count = textLength(begin);
            if (count < 1 || count > mostDigits) {
                return NONE;
            }
            int number = 0;
            for (int i = 0; i < count; i++) {
                int digit = signAt(begin + i);
                if (!isDigit(digit)) {
                    return NONE;
                }
                number = 10 * number + digit - '0';
            }
            return number;
        }

        boolean isNamed(int segment, String word) {
            return says(find(segment, 0, 1, 1), word);
        }

        /** The first segment with this name, NONE when there is none. */
        int segmentNamed(String word) {
            for (int segment = 1; segment <= segmentCount; segment++) {
                if (isNamed(segment, word)) {
                    return segment;
                }
            }
            return NONE;
        }

        /** The identity as one number, its characters in seven bits each; 0 when it is none. */
        long identity() {
            int begin = find(1, 2, 1, 1);
            int count = textLength(begin);
            long packed = 0;
            if (count > MOST_IDENTITY) {
                return 0;
            }
            for (int i = 0; i < count; i++) {
                int c = signAt(begin + i);
                if (!isLetterOrDigit(c)) {
                    return 0;
                }
                packed = 128 * packed + c;
            }
            return packed;
        }

        /** The type, null when it is none. */
        Kind kind() {
            int group = find(1, 3, 1, 1);
            int event = find(1, 3, 1, 2);
            for (int i = 0; i < KINDS.length; i++) {
                if (says(group, KINDS[i].group) && says(event, KINDS[i].event)) {
                    return KINDS[i];
                }
            }
            return null;
        }

        void writeTo(Chars out, Separators chosen) {
            out.putAll(HEADER);
            chosen.putAllTo(out);
            for (int at = HEADER.length(); at < length; at++) {
                int sign = signAt(at);
                if (sign < MARK) {
                    chosen.putTextCharacter(sign, out);
                } else {
                    out.put(sign == SEGMENT_MARK ? SEGMENT_END : chosen.at(sign - MARK));
                }
            }
        }
    }

    /** The reasons of the last different identities that were accepted or in error. */
    private static final class Ledger {
        private final long[] identities = new long[REMEMBERED];
        private final int[] reasons = new int[REMEMBERED];
        private int oldest = 0;

        int reasonOf(long identity) {
            for (int i = 0; i < REMEMBERED; i++) {
                if (identities[i] == identity) {
                    return reasons[i];
                }
            }
            return NONE;
        }

        void add(long identity, int reason) {
            identities[oldest] = identity;
            reasons[oldest] = reason;
            oldest = oldest + 1 < REMEMBERED ? oldest + 1 : 0;
        }
    }

    /** The codes of a patient that have values. */
    private static final class Measured {
        private final int[] codes = new int[MOST_CODES];
        private final int[] values = new int[MOST_CODES];
        private int count = 0;

        private int placeOf(int code) {
            for (int i = 0; i < count; i++) {
                if (codes[i] == code) {
                    return i;
                }
            }
            return NONE;
        }

        int valueOf(int code) {
            int place = placeOf(code);
            return place == NONE ? NONE : values[place];
        }

        /** Answers false, changing nothing, when there is no room for a further code. */
        boolean set(int code, int value) {
            int place = placeOf(code);
            if (place == NONE) {
                if (count >= MOST_CODES) {
                    return false;
                }
                place = count;
                count++;
            }
            codes[place] = code;
            values[place] = value;
            return true;
        }

        void remove(int code) {
            int place = placeOf(code);
            if (place != NONE) {
                count--;
                codes[place] = codes[count];
                values[place] = values[count];
            }
        }

        void copyFrom(Measured other) {
            count = other.count;
            for (int i = 0; i < count; i++) {
                codes[i] = other.codes[i];
                values[i] = other.values[i];
            }
        }
    }

    /** What is kept of a patient who is known. */
    private static final class Patient {
        private final Chars family = new Chars(MOST_NAME);
        private final Chars first = new Chars(MOST_NAME);
        private final Measured measured = new Measured();
        private int bed = NONE;
    }

    /** The beds and the patients. */
    private static final class Hospital {
        private final int[] occupants = new int[WARDS * BEDS_IN_WARD];
        /** By number; those who are not known are null. */
        private final Patient[] patients = new Patient[MOST_PATIENT + 1];
        /** Results are tried here first, so that a refused message leaves the patient's as they were. */
        private final Measured trial = new Measured();

        /** Null when the patient is not known. */
        Patient find(int number) {
            return number < 1 || number > MOST_PATIENT ? null : patients[number];
        }

        int patientIn(int bed) {
            return bed < 0 || bed >= occupants.length ? NONE : occupants[bed];
        }

        int countInBeds() {
            int count = 0;
            for (int bed = 0; bed < occupants.length; bed++) {
                if (occupants[bed] != 0) {
                    count++;
                }
            }
            return count;
        }

        /** Does what a message says; answers the reason 11 .. 18 why not, 0 when it is done. */
        int take(Message message, Kind kind) {
            int number = patientNumber(message);
            if (number == NONE) {
                return NO_PATIENT;
            }
            Patient patient = find(number);
            switch (kind) {
                case ADMIT:
                    return admit(message, number, patient);
                case MOVE:
                    return move(message, number, patient);
                case LEAVE:
                    return leave(patient);
                case RENAME:
                    return rename(message, patient);
                default:
                    return measure(message, patient);
            }
        }

        private int admit(Message message, int number, Patient patient) {
            int bed = bedAsked(message);
            if (bed == NONE) {
                return NO_BED;
            }
            if (patient != null && patient.bed != NONE) {
                return IN_BED_ALREADY;
            }
            if (patientIn(bed) != 0) {
                return BED_TAKEN;
            }
            Patient admitted = patient == null ? new Patient() : patient;
            if (number >= 1 && number <= MOST_PATIENT) {
                patients[number] = admitted;
            }
            putInBed(number, admitted, bed);
            takeNames(message, admitted);
            return 0;
        }

        private int move(Message message, int number, Patient patient) {
            int bed = bedAsked(message);
            if (bed == NONE) {
                return NO_BED;
            }
            if (patient == null || patient.bed == NONE) {
                return NOT_IN_BED;
            }
            if (patientIn(bed) != 0) {
                return BED_TAKEN;
            }
            emptyBedOf(patient);
            putInBed(number, patient, bed);
            return 0;
        }

        private int leave(Patient patient) {
            if (patient == null || patient.bed == NONE) {
                return NOT_IN_BED;
            }
            emptyBedOf(patient);
            return 0;
        }

        private int rename(Message message, Patient patient) {
            if (patient == null) {
                return NOT_KNOWN;
            }
            takeNames(message, patient);
            return 0;
        }

        private int measure(Message message, Patient patient) {
            if (patient == null || patient.bed == NONE) {
                return NOT_IN_BED;
            }
            if (!areResultsRight(message)) {
                return WRONG_RESULT;
            }
            trial.copyFrom(patient.measured);
            for (int segment = 1; segment <= message.segmentCount; segment++) {
                if (message.isNamed(segment, "OBX") && !takeResults(message, segment)) {
                    return TOO_MANY_CODES;
                }
            }
            patient.measured.copyFrom(trial);
            return 0;
        }

        private void putInBed(int number, Patient patient, int bed) {
            if (bed >= 0 && bed < occupants.length) {
                occupants[bed] = number;
                patient.bed = bed;
            }
        }

        private void emptyBedOf(Patient patient) {
            if (patient.bed >= 0 && patient.bed < occupants.length) {
                occupants[patient.bed] = 0;
            }
            patient.bed = NONE;
        }

        private static int patientNumber(Message message) {
            int begin = message.find(message.segmentNamed("PID"), 1, 1, 1);
            return message.character(begin, 0) == '0' ? NONE : message.number(begin, 2);
        }

        private static int bedAsked(Message message) {
            int segment = message.segmentNamed("PV1");
            int ward = message.find(segment, 1, 1, 1);
            int bed = message.find(segment, 1, 1, 2);
            int letter = message.character(ward, 0);
            int digit = message.number(bed, 1);
            if (message.textLength(ward) != 1 || !isBetween(letter, 'A', 'A' + WARDS - 1)
                    || !isBetween(digit, 0, BEDS_IN_WARD - 1)) {
                return NONE;
            }
            return BEDS_IN_WARD * (letter - 'A') + digit;
        }

        private static void takeNames(Message message, Patient patient) {
            int segment = message.segmentNamed("PID");
            takeName(message, message.find(segment, 2, 1, 1), patient.family);
            takeName(message, message.find(segment, 2, 1, 2), patient.first);
        }

        private static void takeName(Message message, int begin, Chars kept) {
            if (message.textLength(begin) == 0) {
                return;
            }
            kept.clear();
            if (!message.says(begin, NULL)) {
                message.copyText(begin, kept);
            }
        }

        private static int codeIn(Message message, int segment) {
            int begin = message.find(segment, 1, 1, 1);
            return message.textLength(begin) != 2 ? NONE
                    : codeOf(message.character(begin, 0), message.character(begin, 1));
        }

        private static boolean areResultsRight(Message message) {
            int count = 0;
            for (int segment = 1; segment <= message.segmentCount; segment++) {
                if (message.isNamed(segment, "OBX")) {
                    if (!isResultRight(message, segment)) {
                        return false;
                    }
                    count++;
                }
            }
            return count > 0;
        }

        private static boolean isResultRight(Message message, int segment) {
            int begin = message.find(segment, 2, 1, 1);
            if (codeIn(message, segment) == NONE || begin == NONE) {
                return false;
            }
            for (int r = 0; r < MOST_CHARACTERS && begin != NONE; r++) {
                if (message.number(begin, 4) == NONE && !message.says(begin, NULL)) {
                    return false;
                }
                begin = message.nextRepetition(begin);
            }
            return true;
        }

        /** Answers false when there would be too many codes. */
        private boolean takeResults(Message message, int segment) {
            int code = codeIn(message, segment);
            int begin = message.find(segment, 2, 1, 1);
            for (int r = 0; r < MOST_CHARACTERS && begin != NONE; r++) {
                if (message.says(begin, NULL)) {
                    trial.remove(code);
                } else if (!trial.set(code, message.number(begin, 4))) {
                    return false;
                }
                begin = message.nextRepetition(begin);
            }
            return true;
        }
    }
}
