/**
 * Takes messages about patients in frames of segments and fields, answers each with a receipt, and
 * keeps who lies in which bed and what was measured.
 */
public final class BedMessages {
    public static final int NONE = -1;
    public static final int ACCEPTED = 0, ERROR = 1, REJECTED = 2;

    private static final int MOST_CHARACTERS = 200;
    private static final int MOST_SEGMENTS = 8;
    private static final int MOST_IDENTITY = 6;
    private static final int MOST_NAME = 12;
    private static final int MOST_CODES = 12;
    private static final int MOST_PATIENT = 99;
    /** A value has at most four digits. */
    private static final int MOST_DIGITS = 4;
    private static final int REMEMBERED = 16;
    private static final int WARDS = 4;
    private static final int BEDS_IN_WARD = 8;
    /** A receipt text has at most 40 characters. */
    private static final int MOST_RECEIPT = 40;
    /** Each character of a frame may have to be written as an escape of three. */
    private static final int MOST_WRITTEN = 3 * MOST_CHARACTERS;

    private static final int SEGMENT_END = 13;
    private static final String HEADER = "HDR";
    private static final String NULL = "\"\"";

    private static final int SEPARATORS = 5;
    private static final int FIELD = 0;
    private static final int COMPONENT = 1;
    private static final int REPEAT = 2;
    private static final int ESCAPE = 3;
    private static final int SUB = 4;
    private static final String ESCAPE_LETTERS = "FSRET";
    private static final String HEXADECIMAL = "0123456789ABCDEF";

    private static final int NO_HEADER = 1;
    private static final int WRONG_SEPARATORS = 2;
    private static final int MALFORMED = 3;
    private static final int TOO_MANY_SEGMENTS = 4;
    private static final int NO_IDENTITY = 5;
    private static final int NO_TYPE = 6;
    private static final int NO_PATIENT = 11;
    private static final int NO_BED = 12;
    private static final int NOT_IN_BED = 13;
    private static final int IN_BED_ALREADY = 14;
    private static final int BED_TAKEN = 15;
    private static final int NOT_KNOWN = 16;
    private static final int WRONG_RESULT = 17;
    private static final int TOO_MANY_CODES = 18;

    private static final Kind[] KINDS = Kind.values();

    private final Frame frame = new Frame();
    private final Hospital hospital = new Hospital();
    private final Ledger ledger = new Ledger();
    private final Separators asked = new Separators();
    private final Chars receiptText = new Chars(MOST_RECEIPT);
    private final Chars writtenText = new Chars(MOST_WRITTEN);
    /** The frame is read into a spare message, so that a refused one leaves the latest as it was. */
    private Message spare = new Message();
    private Message latest = new Message();
    private int latestReason = NONE;
    private boolean latestReplayed = false;

    public BedMessages() {
    }

    public int type(long text) {
        int count = 0;
        while (count < 8 && byteOf(text, count) != 0) {
            if (!mayStandInFrame(byteOf(text, count))) {
                return NONE;
            }
            count++;
        }
        if (count > frame.typed.room()) {
            return NONE;
        }
        for (int i = 0; i < count; i++) {
            frame.typed.put(byteOf(text, i));
        }
        return count;
    }

    public int end() {
        receiptText.clear();
        latestReplayed = false;
        latestReason = frame.readInto(spare);
        frame.typed.clear();
        if (latestReason != 0) {
            return REJECTED;
        }
        makeSpareLatest();
        int remembered = ledger.reasonOf(latest.identity());
        if (remembered != NONE) {
            latestReplayed = true;
            latestReason = remembered;
        } else {
            latestReason = hospital.take(latest);
            ledger.add(latest.identity(), latestReason);
        }
        writeReceipt();
        return receiptFor(latestReason);
    }

    public int reason() {
        return latestReason;
    }

    public boolean replayed() {
        return latestReplayed;
    }

    public int receiptLength() {
        return receiptText.length;
    }

    public int receipt(int i) {
        return receiptText.at(i);
    }

    public int patient(int ward, int bed) {
        if (ward < 0 || ward >= WARDS || bed < 0 || bed >= BEDS_IN_WARD) {
            return NONE;
        }
        return hospital.patientIn(BEDS_IN_WARD * ward + bed);
    }

    public int bedOf(int patient) {
        Patient found = hospital.find(patient);
        return found == null ? NONE : found.bed;
    }

    public int inBeds() {
        return hospital.countInBeds();
    }

    public boolean known(int patient) {
        return hospital.find(patient) != null;
    }

    public int name(int patient, int part, int i) {
        Patient found = hospital.find(patient);
        if (found == null || part < 1 || part > 2) {
            return NONE;
        }
        return part == 1 ? found.family.at(i) : found.first.at(i);
    }

    public int result(int patient, char first, char second) {
        Patient found = hospital.find(patient);
        return found == null ? NONE : found.measured.valueOf(codeOf(first, second));
    }

    public int results(int patient) {
        Patient found = hospital.find(patient);
        return found == null ? 0 : found.measured.count;
    }

    public int segments() {
        return latest.segmentCount;
    }

    public int text(int s, int field, int repetition, int component, int i) {
        return latest.character(latest.find(s, field, repetition, component), i);
    }

    public int write(char field, char component, char repeat, char escape, char sub) {
        asked.set(FIELD, field);
        asked.set(COMPONENT, component);
        asked.set(REPEAT, repeat);
        asked.set(ESCAPE, escape);
        asked.set(SUB, sub);
        if (latest.segmentCount == 0 || !asked.areProper()) {
            return NONE;
        }
        writtenText.clear();
        latest.writeTo(writtenText, asked);
        return writtenText.length;
    }

    public int written(int i) {
        return writtenText.at(i);
    }

    private static int byteOf(long text, int i) {
        return (int) (text >>> (8 * i)) & 255;
    }

    private static boolean mayStandInFrame(int c) {
        return isBetween(c, 32, 126) || c == SEGMENT_END;
    }

    private static boolean isBetween(int c, int low, int high) {
        return c >= low && c <= high;
    }

    private static boolean isCapital(int c) {
        return c >= 'A' && c <= 'Z';
    }

    private static boolean isSmall(int c) {
        return c >= 'a' && c <= 'z';
    }

    private static boolean isDigit(int c) {
        return c >= '0' && c <= '9';
    }

    private static boolean isLetterOrDigit(int c) {
        return isCapital(c) || isSmall(c) || isDigit(c);
    }

    /** A code as one number, NONE when it is not two small letters. */
    private static int codeOf(int first, int second) {
        return isSmall(first) && isSmall(second) ? 26 * (first - 'a') + second - 'a' : NONE;
    }

    private static int receiptFor(int reason) {
        if (reason == 0) {
            return ACCEPTED;
        }
        return reason >= NO_PATIENT ? ERROR : REJECTED;
    }

    private void makeSpareLatest() {
        Message read = spare;
        spare = latest;
        latest = read;
    }

    private void writeReceipt() {
        receiptText.putAll(HEADER);
        latest.separators.putAllTo(receiptText);
        writeReceiptField("ENG");
        writeReceiptIdentity();
        writeReceiptField("ACK");
        receiptText.put(SEGMENT_END);
        receiptText.putAll("MSA");
        int receipt = receiptFor(latestReason);
        writeReceiptField(receipt == ACCEPTED ? "AA" : receipt == ERROR ? "AE" : "AR");
        writeReceiptIdentity();
        writeReceiptField("");
        if (latestReason >= 10) {
            receiptText.put('0' + latestReason / 10);
        }
        receiptText.put('0' + latestReason % 10);
    }

    private void writeReceiptField(String text) {
        receiptText.put(latest.separators.at(FIELD));
        receiptText.putAll(text);
    }

    private void writeReceiptIdentity() {
        receiptText.put(latest.separators.at(FIELD));
        latest.copyText(latest.find(1, 2, 1, 1), receiptText);
    }

    /** The types of messages that are understood. */
    private enum Kind {
        ADMIT("ADT", "A01"), MOVE("ADT", "A02"), LEAVE("ADT", "A03"), RENAME("ADT", "A08"),
        MEASURE("ORU", "R01");

        private final String group;
        private final String event;

        Kind(String group, String event) {
            this.group = group;
            this.event = event;
        }
    }

    /** A text in a row that is made once and used again; what does not fit is left out. */
    private static final class Chars {
        private final char[] row;
        private int length = 0;

        Chars(int most) {
            row = new char[most];
        }

        void clear() {
            length = 0;
        }

        int room() {
            return row.length - length;
        }

        int at(int i) {
            return i < 0 || i >= length ? NONE : row[i];
        }

        void put(int c) {
            if (length < row.length) {
                row[length] = (char) c;
                length++;
            }
        }

        void putAll(String text) {
            for (int i = 0; i < text.length(); i++) {
                put(text.charAt(i));
            }
        }

        boolean beginsWith(String text) {
            for (int i = 0; i < text.length(); i++) {
                if (at(i) != text.charAt(i)) {
                    return false;
                }
            }
            return true;
        }
    }

    /** The five separators, each at its place FIELD .. SUB. */
    private static final class Separators {
        private final int[] five = new int[SEPARATORS];

        void set(int place, int c) {
            if (place >= 0 && place < SEPARATORS) {
                five[place] = c;
            }
        }

        int at(int place) {
            return place < 0 || place >= SEPARATORS ? NONE : five[place];
        }

        /** The place of a character, NONE when it is no separator. */
        int placeOf(int c) {
            for (int place = 0; place < SEPARATORS; place++) {
                if (five[place] == c) {
                    return place;
                }
            }
            return NONE;
        }

        boolean areProper() {
            for (int place = 0; place < SEPARATORS; place++) {
                int c = five[place];
                boolean isFirst = placeOf(c) == place;
                if (!isFirst || !isBetween(c, 33, 126) || isLetterOrDigit(c) || c == '"') {
                    return false;
                }
            }
            return true;
        }

        void putAllTo(Chars out) {
            for (int place = 0; place < SEPARATORS; place++) {
                out.put(five[place]);
            }
        }

        void putTextCharacter(int c, Chars out) {
            int place = placeOf(c);
            if (place == NONE) {
                out.put(c);
                return;
            }
            out.put(five[ESCAPE]);
            out.put(ESCAPE_LETTERS.charAt(place));
            out.put(five[ESCAPE]);
        }
    }

    /** The characters that were typed, and how they are read. */
    private static final class Frame {
        private static final int HEADER_LENGTH = 8;
        private static final int NAME_LENGTH = 3;
        private final Chars typed = new Chars(MOST_CHARACTERS);

        /** Answers the reason 1 .. 5 why the frame is no message, 0 when it is one. */
        int readInto(Message message) {
            message.clear();
            if (!typed.beginsWith(HEADER)) {
                return NO_HEADER;
            }
            // a segment that ends too early gives NONE or 13 here, neither of which is proper
            for (int place = 0; place < SEPARATORS; place++) {
                message.separators.set(place, typed.at(NAME_LENGTH + place));
            }
            if (!message.separators.areProper()) {
                return WRONG_SEPARATORS;
            }
            if (!readSegments(message)) {
                return MALFORMED;
            }
            if (message.segmentCount > MOST_SEGMENTS) {
                return TOO_MANY_SEGMENTS;
            }
            return message.identity() == 0 ? NO_IDENTITY : 0;
        }

        private boolean readSegments(Message message) {
            int begin = 0;
            for (int at = 0; at < typed.length; at++) {
                if (typed.at(at) == SEGMENT_END) {
                    if (!readSegment(message, begin, at)) {
                        return false;
                    }
                    begin = at + 1;
                }
            }
            return begin == typed.length || readSegment(message, begin, typed.length);
        }

        private boolean readSegment(Message message, int begin, int end) {
            boolean isHeader = begin == 0;
            if (!isHeader && !isName(begin)) {
                return false;
            }
            message.startSegment();
            for (int i = 0; i < NAME_LENGTH; i++) {
                message.add(typed.at(begin + i));
            }
            return readFields(message, begin + (isHeader ? HEADER_LENGTH : NAME_LENGTH), end);
        }

        private boolean isName(int begin) {
            int second = typed.at(begin + 1);
            int third = typed.at(begin + 2);
            return isCapital(typed.at(begin)) && (isCapital(second) || isDigit(second))
                    && (isCapital(third) || isDigit(third));
        }

        private boolean readFields(Message message, int begin, int end) {
            Separators separators = message.separators;
            if (begin < end && typed.at(begin) != separators.at(FIELD)) {
                return false;
            }
            int taken = 1;
            for (int at = begin; at < end; at += taken) {
                int sign = typed.at(at);
                int place = separators.placeOf(sign);
                taken = 1;
                if (place == ESCAPE) {
                    taken = typed.at(at + 1) == 'X' ? 5 : 3;
                    sign = escaped(separators, at);
                } else if (place != NONE) {
                    sign = Message.MARK + place;
                }
                if (sign == NONE) {
                    return false;
                }
                message.add(sign);
            }
            return true;
        }

        /** The character for which the escape stands that begins here, NONE when it is wrong. */
        private int escaped(Separators separators, int at) {
            int escape = separators.at(ESCAPE);
            int letter = typed.at(at + 1);
            if (typed.at(at + 2) == escape) {
                return separators.at(ESCAPE_LETTERS.indexOf((char) letter));
            }
            if (letter != 'X' || typed.at(at + 4) != escape) {
                return NONE;
            }
            int high = HEXADECIMAL.indexOf((char) typed.at(at + 2));
            int low = HEXADECIMAL.indexOf((char) typed.at(at + 3));
            int c = 16 * high + low;
            return high >= 0 && low >= 0 && isBetween(c, 32, 126) ? c : NONE;
        }
    }

    /**
     * A message as a row of signs: characters of texts, escapes undone, stand for themselves, and
     * separators are marks, so that no sign depends on which separators the frame had.
     */
    private static final class Message {
        private static final int MARK = 256;
        private static final int SEGMENT_MARK = MARK + SEPARATORS;
        private final Separators separators = new Separators();
        private final int[] signs = new int[MOST_CHARACTERS];
        private final int[] starts = new int[MOST_SEGMENTS];
        private int length = 0;
        private int segmentCount = 0;

        void clear() {
            length = 0;
            segmentCount = 0;
        }

        void add(int sign) {
            if (length < MOST_CHARACTERS) {
                signs[length] = sign;
                length++;
            }
        }

        void startSegment() {
            if (segmentCount > 0) {
                add(SEGMENT_MARK);
            }
            if (segmentCount < MOST_SEGMENTS) {
                starts[segmentCount] = length;
            }
            segmentCount++;
        }

        /** Where sub 1 of a component begins, NONE when it is not there. */
        int find(int segment, int field, int repetition, int component) {
            if (segment < 1 || segment > segmentCount || segment > MOST_SEGMENTS) {
                return NONE;
            }
            int f = 0;
            int r = 1;
            int c = 1;
            for (int at = starts[segment - 1]; at <= length; at++) {
                // of the places that have these numbers the first one is the beginning
                if (f == field && r == repetition && c == component) {
                    return at;
                }
                int sign = at < length ? signs[at] : SEGMENT_MARK;
                if (sign == SEGMENT_MARK) {
                    return NONE;
                }
                if (sign == MARK + FIELD) {
                    f++;
                    r = 1;
                    c = 1;
                } else if (sign == MARK + REPEAT) {
                    r++;
                    c = 1;
                } else if (sign == MARK + COMPONENT) {
                    c++;
                }
            }
            return NONE;
        }

        /** Where the repetition behind the one that begins here begins, NONE when it is the last. */
        int nextRepetition(int begin) {
            for (int at = Math.max(begin, 0); at < length; at++) {
                int sign = signs[at];
                if (sign == MARK + REPEAT) {
                    return at + 1;
                }
                if (sign == MARK + FIELD || sign == SEGMENT_MARK) {
                    return NONE;
                }
            }
            return NONE;
        }

        /** A text that is not there begins nowhere, at NONE, and has no characters. */
        int textLength(int begin) {
            int count = 0;
            if (begin >= 0) {
                while (begin + count < length && signs[begin + count] < MARK) {
                    count++;
                }
            }
            return count;
        }

        int character(int begin, int i) {
            return i < 0 || i >= textLength(begin) ? NONE : signs[begin + i];
        }

        boolean says(int begin, String word) {
            if (textLength(begin) != word.length()) {
                return false;
            }
            for (int i = 0; i < word.length(); i++) {
                if (signs[begin + i] != word.charAt(i)) {
                    return false;
                }
            }
            return true;
        }

        void copyText(int begin, Chars out) {
            int count = textLength(begin);
            for (int i = 0; i < count; i++) {
                out.put(signs[begin + i]);
            }
        }

        /** The number that one to so many digits tell, NONE when the text is something else. */
        int number(int begin, int mostDigits) {
            int count = textLength(begin);
            if (count < 1 || count > mostDigits) {
                return NONE;
            }
            int number = 0;
            for (int i = 0; i < count; i++) {
                int digit = signs[begin + i];
                if (!isDigit(digit)) {
                    return NONE;
                }
                number = 10 * number + digit - '0';
            }
            return number;
        }

        /** The code of a segment, NONE when it has none. */
        int code(int segment) {
            int begin = find(segment, 1, 1, 1);
            return textLength(begin) == 2 ? codeOf(signs[begin], signs[begin + 1]) : NONE;
        }

        /** The first segment with this name from a segment on, NONE when there is none. */
        int nextNamed(String word, int from) {
            for (int segment = Math.max(from, 1); segment <= segmentCount; segment++) {
                if (says(find(segment, 0, 1, 1), word)) {
                    return segment;
                }
            }
            return NONE;
        }

        /** The identity as one number, its characters in seven bits each; 0 when it is none. */
        long identity() {
            int begin = find(1, 2, 1, 1);
            int count = textLength(begin);
            long packed = 0;
            if (count > MOST_IDENTITY) {
                return 0;
            }
            for (int i = 0; i < count; i++) {
                int c = signs[begin + i];
                if (!isLetterOrDigit(c)) {
                    return 0;
                }
                packed = 128 * packed + c;
            }
            return packed;
        }

        /** The type, null when it is none. */
        Kind kind() {
            int group = find(1, 3, 1, 1);
            int event = find(1, 3, 1, 2);
            for (int i = 0; i < KINDS.length; i++) {
                if (says(group, KINDS[i].group) && says(event, KINDS[i].event)) {
                    return KINDS[i];
                }
            }
            return null;
        }

        void writeTo(Chars out, Separators chosen) {
            out.putAll(HEADER);
            chosen.putAllTo(out);
            for (int at = HEADER.length(); at < length; at++) {
                int sign = signs[at];
                if (sign < MARK) {
                    chosen.putTextCharacter(sign, out);
                } else {
                    out.put(sign == SEGMENT_MARK ? SEGMENT_END : chosen.at(sign - MARK));
                }
            }
        }
    }

    /** The reasons of the last different identities that were accepted or in error. */
    private static final class Ledger {
        private final long[] identities = new long[REMEMBERED];
        private final int[] reasons = new int[REMEMBERED];
        private int oldest = 0;

        int reasonOf(long identity) {
            for (int i = 0; i < REMEMBERED; i++) {
                if (identities[i] == identity) {
                    return reasons[i];
                }
            }
            return NONE;
        }

        /** What is rejected is not remembered. */
        void add(long identity, int reason) {
            if (receiptFor(reason) == REJECTED) {
                return;
            }
            identities[oldest] = identity;
            reasons[oldest] = reason;
            oldest = oldest + 1 < REMEMBERED ? oldest + 1 : 0;
        }
    }

    /** The codes of a patient that have values. */
    private static final class Measured {
        private final int[] codes = new int[MOST_CODES];
        private final int[] values = new int[MOST_CODES];
        private int count = 0;

        private int placeOf(int code) {
            for (int i = 0; i < count; i++) {
                if (codes[i] == code) {
                    return i;
                }
            }
            return NONE;
        }

        int valueOf(int code) {
            int place = placeOf(code);
            return place == NONE ? NONE : values[place];
        }

        /** Answers false, changing nothing, when there is no room for a further code. */
        boolean set(int code, int value) {
            int place = placeOf(code);
            if (place == NONE) {
                if (count >= MOST_CODES) {
                    return false;
                }
                place = count;
                count++;
            }
            codes[place] = code;
            values[place] = value;
            return true;
        }

        void remove(int code) {
            int place = placeOf(code);
            if (place != NONE) {
                count--;
                codes[place] = codes[count];
                values[place] = values[count];
            }
        }

        void copyFrom(Measured other) {
            count = other.count;
            for (int i = 0; i < count; i++) {
                codes[i] = other.codes[i];
                values[i] = other.values[i];
            }
        }
    }

    /** What is kept of a patient who is known. */
    private static final class Patient {
        private final Chars family = new Chars(MOST_NAME);
        private final Chars first = new Chars(MOST_NAME);
        private final Measured measured = new Measured();
        private int bed = NONE;
    }

    /** The beds and the patients. */
    private static final class Hospital {
        private final int[] occupants = new int[WARDS * BEDS_IN_WARD];
        /** By number; those who are not known are null. */
        private final Patient[] patients = new Patient[MOST_PATIENT + 1];
        /** Results are tried here first, so that a refused message leaves the patient's as they were. */
        private final Measured trial = new Measured();

        /** Null when the patient is not known. */
        Patient find(int number) {
            return number < 1 || number > MOST_PATIENT ? null : patients[number];
        }

        int patientIn(int bed) {
            return bed < 0 || bed >= occupants.length ? NONE : occupants[bed];
        }

        int countInBeds() {
            int count = 0;
            for (int bed = 0; bed < occupants.length; bed++) {
                if (occupants[bed] != 0) {
                    count++;
                }
            }
            return count;
        }

        /** Does what a message says; answers the reason 6 .. 18 why not, 0 when it is done. */
        int take(Message message) {
            Kind kind = message.kind();
            if (kind == null) {
                return NO_TYPE;
            }
            int pid = message.nextNamed("PID", 1);
            int number = patientNumber(message, pid);
            if (number == NONE) {
                return NO_PATIENT;
            }
            int bed = bedAsked(message);
            switch (kind) {
                case ADMIT:
                    return admit(message, pid, number, bed);
                case MOVE:
                    return move(number, bed);
                case LEAVE:
                    return leave(number);
                case RENAME:
                    return rename(message, pid, number);
                default:
                    return measure(message, number);
            }
        }

        private int admit(Message message, int pid, int number, int bed) {
            Patient patient = find(number);
            if (bed == NONE) {
                return NO_BED;
            }
            if (patient != null && patient.bed != NONE) {
                return IN_BED_ALREADY;
            }
            if (patientIn(bed) != 0) {
                return BED_TAKEN;
            }
            if (patient == null) {
                patient = new Patient();
                patients[number] = patient;
            }
            putInBed(number, patient, bed);
            takeNames(message, pid, patient);
            return 0;
        }

        private int move(int number, int bed) {
            Patient patient = find(number);
            if (bed == NONE) {
                return NO_BED;
            }
            if (patient == null || patient.bed == NONE) {
                return NOT_IN_BED;
            }
            if (patientIn(bed) != 0) {
                return BED_TAKEN;
            }
            emptyBedOf(patient);
            putInBed(number, patient, bed);
            return 0;
        }

        private int leave(int number) {
            Patient patient = find(number);
            if (patient == null || patient.bed == NONE) {
                return NOT_IN_BED;
            }
            emptyBedOf(patient);
            return 0;
        }

        private int rename(Message message, int pid, int number) {
            Patient patient = find(number);
            if (patient == null) {
                return NOT_KNOWN;
            }
            takeNames(message, pid, patient);
            return 0;
        }

        private int measure(Message message, int number) {
            Patient patient = find(number);
            if (patient == null || patient.bed == NONE) {
                return NOT_IN_BED;
            }
            trial.copyFrom(patient.measured);
            int segment = message.nextNamed("OBX", 1);
            boolean isThere = segment != NONE;
            boolean fits = true;
            for (int n = 0; n < MOST_SEGMENTS && segment != NONE; n++) {
                int code = message.code(segment);
                int values = message.find(segment, 2, 1, 1);
                if (code == NONE || !areValues(message, values)) {
                    return WRONG_RESULT;
                }
                // one that does not fit is told only when no later one is wrong
                fits = fits && tryValues(message, code, values);
                segment = message.nextNamed("OBX", segment + 1);
            }
            if (!isThere) {
                return WRONG_RESULT;
            }
            if (!fits) {
                return TOO_MANY_CODES;
            }
            patient.measured.copyFrom(trial);
            return 0;
        }

        private void putInBed(int number, Patient patient, int bed) {
            if (bed >= 0 && bed < occupants.length) {
                occupants[bed] = number;
                patient.bed = bed;
            }
        }

        private void emptyBedOf(Patient patient) {
            if (patient.bed >= 0 && patient.bed < occupants.length) {
                occupants[patient.bed] = 0;
            }
            patient.bed = NONE;
        }

        private static int patientNumber(Message message, int pid) {
            int begin = message.find(pid, 1, 1, 1);
            int number = message.number(begin, 2);
            boolean isRight = isBetween(number, 1, MOST_PATIENT) && message.character(begin, 0) != '0';
            return isRight ? number : NONE;
        }

        private static int bedAsked(Message message) {
            int segment = message.nextNamed("PV1", 1);
            int ward = message.find(segment, 1, 1, 1);
            int bed = message.find(segment, 1, 1, 2);
            int letter = message.character(ward, 0);
            int digit = message.number(bed, 1);
            if (message.textLength(ward) != 1 || !isBetween(letter, 'A', 'A' + WARDS - 1)
                    || !isBetween(digit, 0, BEDS_IN_WARD - 1)) {
                return NONE;
            }
            return BEDS_IN_WARD * (letter - 'A') + digit;
        }

        private static void takeNames(Message message, int pid, Patient patient) {
            takeName(message, message.find(pid, 2, 1, 1), patient.family);
            takeName(message, message.find(pid, 2, 1, 2), patient.first);
        }

        private static void takeName(Message message, int begin, Chars kept) {
            if (message.textLength(begin) == 0) {
                return;
            }
            kept.clear();
            if (!message.says(begin, NULL)) {
                message.copyText(begin, kept);
            }
        }

        /** Whether each repetition from this one on is a value; one that is not there is none. */
        private static boolean areValues(Message message, int first) {
            boolean isThere = first != NONE;
            int begin = first;
            for (int n = 0; n < MOST_CHARACTERS && begin != NONE; n++) {
                if (message.number(begin, MOST_DIGITS) == NONE && !message.says(begin, NULL)) {
                    return false;
                }
                begin = message.nextRepetition(begin);
            }
            return isThere;
        }

        /** Answers false when there would be too many codes. */
        private boolean tryValues(Message message, int code, int first) {
            int begin = first;
            for (int n = 0; n < MOST_CHARACTERS && begin != NONE; n++) {
                if (message.says(begin, NULL)) {
                    trial.remove(code);
                } else if (!trial.set(code, message.number(begin, MOST_DIGITS))) {
                    return false;
                }
                begin = message.nextRepetition(begin);
            }
            return true;
        }
    }
}
