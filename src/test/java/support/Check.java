/** Counts answers that are not as due, and speaks to a BedMessages in whole frames. */
final class Check {
    static final String HEAD = "HDR|^~\\&|LAB|";
    private int wrong = 0;
    private int asked = 0;

    void due(String call, long got, long want) {
        asked++;
        if (got != want) {
            wrong++;
            System.out.println(call + " answered " + got + ", due is " + want);
        }
    }

    void due(String call, boolean got, boolean want) {
        due(call, got ? 1 : 0, want ? 1 : 0);
    }

    void due(String call, String got, String want) {
        asked++;
        if (!got.equals(want)) {
            wrong++;
            System.out.println(call + " answered " + shown(got) + ", due is " + shown(want));
        }
    }

    /** Sends a frame to an object and looks at its receipt and reason. */
    void dueReceipt(BedMessages x, String frame, int receipt, int reason) {
        due("end() of " + shown(frame), send(x, frame), receipt);
        due("reason() of " + shown(frame), x.reason(), reason);
        boolean hasText = reason == 0 || reason > 5;
        due("has a receipt text, " + shown(frame), x.receiptLength() > 0, hasText);
    }

    void finish() {
        System.out.println(asked + " answers, " + wrong + " not as due");
        if (wrong != 0 || asked == 0) {
            System.exit(1);
        }
    }

    static String shown(String text) {
        return "'" + text.replace("\r", "<13>") + "'";
    }

    static long packed(String upToEight) {
        long packed = 0;
        for (int i = upToEight.length() - 1; i >= 0; i--) {
            packed = packed << 8 | upToEight.charAt(i);
        }
        return packed;
    }

    static void typeAll(BedMessages x, String frame) {
        for (int at = 0; at < frame.length(); at += 8) {
            String piece = frame.substring(at, Math.min(at + 8, frame.length()));
            if (x.type(packed(piece)) != piece.length()) {
                throw new IllegalArgumentException("can't be typed: " + shown(frame));
            }
        }
    }

    static int send(BedMessages x, String frame) {
        typeAll(x, frame);
        return x.end();
    }

    static String admit(String identity, int patient, String bed) {
        return HEAD + identity + "|ADT^A01\rPID|" + patient + "\rPV1|" + bed;
    }

    static String receiptText(BedMessages x) {
        StringBuilder text = new StringBuilder();
        int length = x.receiptLength();
        for (int i = 0; i < length; i++) {
            text.append((char) x.receipt(i));
        }
        return text.toString();
    }

    static String nameText(BedMessages x, int patient, int part) {
        StringBuilder text = new StringBuilder();
        for (int c = x.name(patient, part, 0); c != BedMessages.NONE; c = x.name(patient, part, text.length())) {
            text.append((char) c);
        }
        return text.toString();
    }

    static String partText(BedMessages x, int segment, int field, int repetition, int component) {
        StringBuilder text = new StringBuilder();
        int c = x.text(segment, field, repetition, component, 0);
        while (c != BedMessages.NONE) {
            text.append((char) c);
            c = x.text(segment, field, repetition, component, text.length());
        }
        return text.toString();
    }

    static int write(BedMessages x, String separators) {
        return x.write(separators.charAt(0), separators.charAt(1), separators.charAt(2),
                separators.charAt(3), separators.charAt(4));
    }

    static String writtenText(BedMessages x) {
        StringBuilder text = new StringBuilder();
        for (int c = x.written(0); c != BedMessages.NONE; c = x.written(text.length())) {
            text.append((char) c);
        }
        return text.toString();
    }
}
