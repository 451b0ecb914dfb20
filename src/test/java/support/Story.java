import java.util.ArrayList;
import java.util.List;
import java.util.function.ToIntFunction;

/**
 * A run of calls that can be made again on a new object, so that all that the object would answer
 * afterwards can be asked although one object may be asked only 512 times. A story never changes:
 * what is added gives another one.
 */
final class Story {
    private static final int MOST_CALLS = 512;
    private static final int[] PATIENTS_WITH_CODES = {1, 2, 99};
    /** The identities that a busy object remembers. */
    static final String[] BUSY_IDENTITIES = {"m1", "m2", "m3", "m4"};
    private final List<ToIntFunction<BedMessages>> calls;

    Story() {
        this(List.of());
    }

    private Story(List<ToIntFunction<BedMessages>> calls) {
        this.calls = calls;
    }

    /** 1 and 2 are in the beds A 1 and B 2, 1 has two results, and something has been written. */
    static Story busy() {
        return new Story().sendAll(
                Check.HEAD + "m1|ADT^A01\rPID|1|Doe^Ann\rPV1|A^1",
                Check.HEAD + "m2|ADT^A01\rPID|2|Roe^Bea\rPV1|B^2",
                Check.HEAD + "m3|ORU^R01\rPID|1\rOBX|ab|12\rOBX|cd|7",
                Check.HEAD + "m4|ADT^A08\rPID|3").write("#!*+-");
    }

    private Story with(List<ToIntFunction<BedMessages>> more) {
        List<ToIntFunction<BedMessages>> all = new ArrayList<>(calls);
        all.addAll(more);
        return new Story(all);
    }

    int calls() {
        return calls.size();
    }

    Story call(ToIntFunction<BedMessages> call) {
        return with(List.of(call));
    }

    Story type(String text) {
        List<ToIntFunction<BedMessages>> more = new ArrayList<>();
        for (int at = 0; at < text.length(); at += 8) {
            long packed = Check.packed(text.substring(at, Math.min(at + 8, text.length())));
            more.add(x -> x.type(packed));
        }
        return with(more);
    }

    Story end() {
        return call(BedMessages::end);
    }

    Story send(String frame) {
        if (frame.length() > 200) {
            throw new IllegalArgumentException("too long to be typed: " + Check.shown(frame));
        }
        return type(frame).end();
    }

    Story sendAll(String... frames) {
        Story story = this;
        for (String frame : frames) {
            story = story.send(frame);
        }
        return story;
    }

    Story write(String five) {
        return call(x -> Check.write(x, five));
    }

    /** A new object on which the calls have been made. */
    BedMessages tell() {
        if (calls.size() > MOST_CALLS) {
            throw new IllegalStateException("a story of more than " + MOST_CALLS + " calls");
        }
        BedMessages x = new BedMessages();
        for (ToIntFunction<BedMessages> call : calls) {
            call.applyAsInt(x);
        }
        return x;
    }

    /** What the last call of the story answers. */
    int lastAnswer() {
        BedMessages x = new Story(calls.subList(0, calls.size() - 1)).tell();
        return calls.get(calls.size() - 1).applyAsInt(x);
    }

    /** The questions that are asked of one story, each with a name that a fault is told with. */
    private final class Questions {
        private final StringBuilder answers = new StringBuilder();
        private BedMessages x = null;
        private int used = 0;

        void ask(String name, ToIntFunction<BedMessages> question) {
            if (x == null || used >= MOST_CALLS) {
                x = tell();
                used = calls.size();
            }
            used++;
            answers.append(name).append(" = ").append(question.applyAsInt(x)).append('\n');
        }
    }

    /** All that is asked about the latest receipt. */
    String receiptState() {
        Questions q = new Questions();
        q.ask("reason()", BedMessages::reason);
        q.ask("replayed()", x -> x.replayed() ? 1 : 0);
        q.ask("receiptLength()", BedMessages::receiptLength);
        for (int n = -1; n <= 41; n++) {
            int i = n;
            q.ask("receipt(" + i + ")", x -> x.receipt(i));
        }
        return q.answers.toString();
    }

    /** Who is known and in which bed, the names and the results. */
    String wardState() {
        Questions q = new Questions();
        q.ask("inBeds()", BedMessages::inBeds);
        for (int bed = 0; bed < 32; bed++) {
            int b = bed;
            q.ask("patient(" + b / 8 + ", " + b % 8 + ")", x -> x.patient(b / 8, b % 8));
        }
        for (int patient = 1; patient <= 99; patient++) {
            int p = patient;
            q.ask("bedOf(" + p + ")", x -> x.bedOf(p));
            q.ask("known(" + p + ")", x -> x.known(p) ? 1 : 0);
            q.ask("results(" + p + ")", x -> x.results(p));
            for (int n = 0; n < 26; n++) {
                int part = 1 + n / 13;
                int i = n % 13;
                q.ask("name(" + p + ", " + part + ", " + i + ")", x -> x.name(p, part, i));
            }
        }
        for (int p : PATIENTS_WITH_CODES) {
            for (int code = 0; code < 26 * 26; code++) {
                char first = (char) ('a' + code / 26);
                char second = (char) ('a' + code % 26);
                q.ask("result(" + p + ", " + first + ", " + second + ")", x -> x.result(p, first, second));
            }
        }
        return q.answers.toString();
    }

    /** The latest message, by its texts and by how it is written. */
    String messageState() {
        Questions q = new Questions();
        q.ask("segments()", BedMessages::segments);
        for (int n = 0; n < 8 * 4 * 2 * 2; n++) {
            int s = 1 + n / 16;
            int field = n / 4 % 4;
            int repetition = 1 + n / 2 % 2;
            int component = 1 + n % 2;
            q.ask("text(" + s + ", " + field + ", " + repetition + ", " + component + ", 0)",
                    x -> x.text(s, field, repetition, component, 0));
        }
        Story written = write("$%(){");
        return q.answers + "write = " + written.lastAnswer() + "\n" + written.writtenState();
    }

    /** What was written last. */
    String writtenState() {
        Questions q = new Questions();
        for (int n = -1; n <= 600; n++) {
            int i = n;
            q.ask("written(" + i + ")", x -> x.written(i));
        }
        return q.answers.toString();
    }

    /** What has been typed of the next frame: how much more could be, and what it is at its end. */
    String frameState() {
        return "room = " + room() + "\n" + end().receiptState() + end().messageState();
    }

    /** How many characters more the frame takes. */
    int room() {
        BedMessages x = tell();
        int room = 0;
        while (calls.size() + room < MOST_CALLS && x.type('x') == 1) {
            room++;
        }
        return room;
    }

    /** Which identities are remembered, with which reasons: a wrong type shows it and changes nothing. */
    String ledgerState(String... identities) {
        StringBuilder answers = new StringBuilder();
        for (String identity : identities) {
            BedMessages x = send(Check.HEAD + identity + "|ASK").tell();
            answers.append(identity).append(": ").append(x.reason()).append(x.replayed() ? " replayed\n" : "\n");
        }
        return answers.toString();
    }

    /** As ledgerState, and which of them are still remembered after up to 16 further ones. */
    String ledgerOrder(String... identities) {
        StringBuilder answers = new StringBuilder();
        Story story = this;
        for (int further = 0; further <= 16; further++) {
            answers.append(further).append(" further\n").append(story.ledgerState(identities));
            story = story.send("HDR|^~\\&||zz" + further + "|ADT^A08");
        }
        return answers.toString();
    }

    /** All that can be asked, and which of these identities are remembered. */
    String wholeState(String... identities) {
        return receiptState() + wardState() + messageState() + writtenState() + frameState()
                + end().ledgerState(identities);
    }
}
