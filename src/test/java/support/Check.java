import java.util.function.IntUnaryOperator;

/** Counts answers that are not as due, and speaks to a BedMessages in whole frames. */
final class Check {
    static final String HEAD = "HDR|^~\\&|LAB|";
    /** Longer than any text that is kept: a text without an end is a fault, not a test without one. */
    private static final int MOST_TEXT = 1000;
    private int wrong = 0;
    private int asked = 0;
    private String sentence = "";

    /** The sentence of the document that the next answers are about; a fault is told with it. */
    void about(String quoted) {
        sentence = "[" + quoted + "] ";
    }

    void due(String call, long got, long want) {
        asked++;
        if (got != want) {
            wrong++;
            System.out.println(sentence + call + " answered " + got + ", due is " + want);
        }
    }

    void due(String call, boolean got, boolean want) {
        due(call, got ? 1 : 0, want ? 1 : 0);
    }

    void due(String call, String got, String want) {
        asked++;
        if (!got.equals(want)) {
            wrong++;
            System.out.println(sentence + call + " answered " + shown(got) + ", due is " + shown(want));
        }
    }

    /** Of two states, written in lines, the first line that differs is told. */
    void same(String what, String got, String want) {
        String[] gotLines = got.split("\n");
        String[] wantLines = want.split("\n");
        for (int i = 0; i < Math.min(gotLines.length, wantLines.length); i++) {
            if (!gotLines[i].equals(wantLines[i])) {
                due(what, gotLines[i], wantLines[i]);
                return;
            }
        }
        due(what + ", lines", gotLines.length, wantLines.length);
    }

    /** Sends a frame to an object and looks at its receipt and reason. */
    void dueReceipt(BedMessages x, String frame, int receipt, int reason) {
        due("end() of " + shown(frame), send(x, frame), receipt);
        due("reason() of " + shown(frame), x.reason(), reason);
        boolean hasText = reason == 0 || reason > 5;
        due("has a receipt text, " + shown(frame), x.receiptLength() > 0, hasText);
    }

    void finish() {
        System.out.println(asked + " answers, " + wrong + " not as due");
        if (wrong != 0 || asked == 0) {
            System.exit(1);
        }
    }

    static String shown(String text) {
        return "'" + text.replace("\r", "<13>") + "'";
    }

    static long packed(String upToEight) {
        long packed = 0;
        for (int i = upToEight.length() - 1; i >= 0; i--) {
            packed = packed << 8 | upToEight.charAt(i);
        }
        return packed;
    }

    static void typeAll(BedMessages x, String frame) {
        for (int at = 0; at < frame.length(); at += 8) {
            String piece = frame.substring(at, Math.min(at + 8, frame.length()));
            if (x.type(packed(piece)) != piece.length()) {
                throw new IllegalArgumentException("can't be typed: " + shown(frame));
            }
        }
    }

    static int send(BedMessages x, String frame) {
        typeAll(x, frame);
        return x.end();
    }

    static String admit(String identity, int patient, String bed) {
        return HEAD + identity + "|ADT^A01\rPID|" + patient + "\rPV1|" + bed;
    }

    /** The characters from number 0 on up to the first NONE. */
    private static String upToNone(IntUnaryOperator character) {
        StringBuilder text = new StringBuilder();
        int c = character.applyAsInt(0);
        while (c != BedMessages.NONE && text.length() < MOST_TEXT) {
            text.append((char) c);
            c = character.applyAsInt(text.length());
        }
        return text.toString();
    }

    static String receiptText(BedMessages x) {
        return upToNone(x::receipt);
    }

    static String nameText(BedMessages x, int patient, int part) {
        return upToNone(i -> x.name(patient, part, i));
    }

    static String partText(BedMessages x, int segment, int field, int repetition, int component) {
        return upToNone(i -> x.text(segment, field, repetition, component, i));
    }

    static String writtenText(BedMessages x) {
        return upToNone(x::written);
    }

    static int write(BedMessages x, String separators) {
        return x.write(separators.charAt(0), separators.charAt(1), separators.charAt(2),
                separators.charAt(3), separators.charAt(4));
    }
}
