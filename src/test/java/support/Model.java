import java.util.ArrayList;
import java.util.LinkedHashMap;
import java.util.List;
import java.util.Map;
import java.util.TreeMap;

/**
 * The document again in another way, with the Java library: frames are split by separators into
 * lists of lists of texts. Runs of calls are held against it.
 */
final class Model {
    /** Segment, field, repetition, component, sub; field 0 is the name. */
    private static final class Tree extends ArrayList<List<List<List<List<String>>>>> {
        private static final long serialVersionUID = 1;
    }

    private static final class Malformed extends Exception {
        private static final long serialVersionUID = 1;
    }

    private String frame = "";
    private Tree latest = null;
    int reason = -1;
    boolean replayed = false;
    String receipt = "";
    String written = "";
    final Map<Integer, Integer> bedOf = new TreeMap<>();
    final Map<Integer, String[]> names = new TreeMap<>();
    final Map<Integer, Map<String, Integer>> results = new TreeMap<>();
    private final LinkedHashMap<String, Integer> seen = new LinkedHashMap<>();

    int type(long text) {
        String more = "";
        for (int i = 0; i < 8; i++) {
            char c = (char) (text >> 8 * i & 255);
            if (c == 0) {
                break;
            }
            more += c;
        }
        if (!more.matches("[ -~\r]*") || frame.length() + more.length() > 200) {
            return -1;
        }
        frame += more;
        return more.length();
    }

    int end() {
        String ended = frame;
        frame = "";
        replayed = false;
        receipt = "";
        reason = decide(ended);
        return reason == 0 ? 0 : reason < 10 ? 2 : 1;
    }

    private int decide(String ended) {
        if (!ended.startsWith("HDR")) {
            return 1;
        }
        String separators = ended.substring(3, Math.min(8, ended.length()));
        if (!proper(separators)) {
            return 2;
        }
        Tree tree;
        try {
            tree = parse(ended, separators);
        } catch (Malformed wrong) {
            return 3;
        }
        if (tree.size() > 8) {
            return 4;
        }
        String identity = part(tree, 0, 2, 1, 1);
        if (!identity.matches("[A-Za-z0-9]{1,6}")) {
            return 5;
        }
        latest = tree;
        int why;
        if (seen.containsKey(identity)) {
            replayed = true;
            why = seen.get(identity);
        } else {
            why = carryOut(tree);
            if (why != 6) {
                seen.put(identity, why);
                if (seen.size() > 16) {
                    seen.remove(seen.keySet().iterator().next());
                }
            }
        }
        String f = separators.substring(0, 1);
        String kind = why == 0 ? "AA" : why == 6 ? "AR" : "AE";
        receipt = "HDR" + separators + String.join(f, "", "ENG", identity, "ACK") + "\r"
                + String.join(f, "MSA", kind, identity, "" + why);
        return why;
    }

    static boolean proper(String separators) {
        return separators.matches("[!-~&&[^A-Za-z0-9\"]]{5}") && separators.chars().distinct().count() == 5;
    }

    private static List<String> cut(String text, char separator) {
        List<String> pieces = new ArrayList<>();
        int begin = 0;
        for (int i = 0; i <= text.length(); i++) {
            if (i == text.length() || text.charAt(i) == separator) {
                pieces.add(text.substring(begin, i));
                begin = i + 1;
            }
        }
        return pieces;
    }

    private static Tree parse(String ended, String separators) throws Malformed {
        Tree tree = new Tree();
        String whole = ended.endsWith("\r") ? ended.substring(0, ended.length() - 1) : ended;
        for (String segment : cut(whole, '\r')) {
            int nameEnd = tree.isEmpty() ? 8 : 3;
            if (!tree.isEmpty() && !segment.matches("[A-Z][A-Z0-9]{2}.*")) {
                throw new Malformed();
            }
            String rest = segment.substring(nameEnd);
            if (!rest.isEmpty() && rest.charAt(0) != separators.charAt(0)) {
                throw new Malformed();
            }
            List<List<List<List<String>>>> fields = new ArrayList<>();
            fields.add(List.of(List.of(List.of(segment.substring(0, 3)))));
            if (!rest.isEmpty()) {
                for (String field : cut(rest.substring(1), separators.charAt(0))) {
                    fields.add(parseField(field, separators));
                }
            }
            tree.add(fields);
        }
        return tree;
    }

    private static List<List<List<String>>> parseField(String field, String separators) throws Malformed {
        List<List<List<String>>> repetitions = new ArrayList<>();
        for (String repetition : cut(field, separators.charAt(2))) {
            List<List<String>> components = new ArrayList<>();
            for (String component : cut(repetition, separators.charAt(1))) {
                List<String> subs = new ArrayList<>();
                for (String sub : cut(component, separators.charAt(4))) {
                    subs.add(undone(sub, separators));
                }
                components.add(subs);
            }
            repetitions.add(components);
        }
        return repetitions;
    }

    /** Between two ESCAPEs each second piece is an escape. */
    private static String undone(String sub, String separators) throws Malformed {
        List<String> pieces = cut(sub, separators.charAt(3));
        if (pieces.size() % 2 == 0) {
            throw new Malformed();
        }
        StringBuilder text = new StringBuilder();
        for (int i = 0; i < pieces.size(); i++) {
            String piece = pieces.get(i);
            if (i % 2 == 0) {
                text.append(piece);
            } else if (piece.matches("[FSRET]")) {
                text.append(separators.charAt("FSRET".indexOf(piece)));
            } else if (piece.matches("X([2-6][0-9A-F]|7[0-9A-E])")) {
                text.append((char) Integer.parseInt(piece.substring(1), 16));
            } else {
                throw new Malformed();
            }
        }
        return text.toString();
    }

    private static <T> T get(List<T> list, int i, T otherwise) {
        return i >= 0 && i < list.size() ? list.get(i) : otherwise;
    }

    private static String part(Tree tree, int segment, int field, int repetition, int component) {
        if (segment < 0 || segment >= tree.size()) {
            return "";
        }
        List<List<List<String>>> repetitions = get(tree.get(segment), field, List.of());
        List<List<String>> components = get(repetitions, repetition - 1, List.of());
        return get(get(components, component - 1, List.of()), 0, "");
    }

    private static int named(Tree tree, String name) {
        for (int s = 0; s < tree.size(); s++) {
            if (part(tree, s, 0, 1, 1).equals(name)) {
                return s;
            }
        }
        return -1;
    }

    private int carryOut(Tree tree) {
        String type = part(tree, 0, 3, 1, 1) + " " + part(tree, 0, 3, 1, 2);
        if (!type.matches("ADT A0[1238]|ORU R01")) {
            return 6;
        }
        String number = part(tree, named(tree, "PID"), 1, 1, 1);
        if (!number.matches("[1-9][0-9]?")) {
            return 11;
        }
        int patient = Integer.parseInt(number);
        String event = type.substring(4);
        String bedText = part(tree, named(tree, "PV1"), 1, 1, 1) + "," + part(tree, named(tree, "PV1"), 1, 1, 2);
        boolean asksForBed = event.equals("A01") || event.equals("A02");
        if (asksForBed && !bedText.matches("[A-D],[0-7]")) {
            return 12;
        }
        int bed = asksForBed ? 8 * (bedText.charAt(0) - 'A') + bedText.charAt(2) - '0' : -1;
        boolean inBed = bedOf.containsKey(patient);
        if (event.matches("A02|A03|R01") && !inBed) {
            return 13;
        }
        if (event.equals("A01") && inBed) {
            return 14;
        }
        if (asksForBed && bedOf.containsValue(bed)) {
            return 15;
        }
        if (event.equals("A08") && !names.containsKey(patient)) {
            return 16;
        }
        if (event.equals("R01")) {
            return measure(tree, patient);
        }
        if (asksForBed) {
            bedOf.put(patient, bed);
        }
        if (event.equals("A03")) {
            bedOf.remove(patient);
        }
        if (event.equals("A01") || event.equals("A08")) {
            String[] kept = names.computeIfAbsent(patient, p -> new String[] {"", ""});
            for (int c = 1; c <= 2; c++) {
                String name = part(tree, named(tree, "PID"), 2, 1, c);
                if (!name.isEmpty()) {
                    kept[c - 1] = name.equals("\"\"") ? "" : name.substring(0, Math.min(12, name.length()));
                }
            }
        }
        return 0;
    }

    private int measure(Tree tree, int patient) {
        List<String[]> steps = new ArrayList<>();
        for (int s = 0; s < tree.size(); s++) {
            if (part(tree, s, 0, 1, 1).equals("OBX")) {
                String code = part(tree, s, 1, 1, 1);
                int repetitions = Math.max(1, get(tree.get(s), 2, List.of()).size());
                for (int r = 1; r <= repetitions; r++) {
                    String value = part(tree, s, 2, r, 1);
                    if (!code.matches("[a-z]{2}") || !value.matches("[0-9]{1,4}|\"\"")) {
                        return 17;
                    }
                    steps.add(new String[] {code, value});
                }
            }
        }
        if (steps.isEmpty()) {
            return 17;
        }
        Map<String, Integer> after = new TreeMap<>(results.getOrDefault(patient, Map.of()));
        for (String[] step : steps) {
            if (step[1].equals("\"\"")) {
                after.remove(step[0]);
            } else {
                after.put(step[0], Integer.parseInt(step[1]));
            }
            if (after.size() > 12) {
                return 18;
            }
        }
        results.put(patient, after);
        return 0;
    }

    private static int character(String text, int i) {
        return i >= 0 && i < text.length() ? text.charAt(i) : -1;
    }

    int receipt(int i) {
        return character(receipt, i);
    }

    int patient(int ward, int bed) {
        if (ward < 0 || ward > 3 || bed < 0 || bed > 7) {
            return -1;
        }
        for (Map.Entry<Integer, Integer> entry : bedOf.entrySet()) {
            if (entry.getValue() == 8 * ward + bed) {
                return entry.getKey();
            }
        }
        return 0;
    }

    int name(int patient, int part, int i) {
        String[] kept = names.get(patient);
        return kept == null || part < 1 || part > 2 ? -1 : character(kept[part - 1], i);
    }

    int result(int patient, char first, char second) {
        return results.getOrDefault(patient, Map.of()).getOrDefault("" + first + second, -1);
    }

    int results(int patient) {
        return results.getOrDefault(patient, Map.of()).size();
    }

    int segments() {
        return latest == null ? 0 : latest.size();
    }

    int text(int s, int field, int repetition, int component, int i) {
        return latest == null ? -1 : character(part(latest, s - 1, field, repetition, component), i);
    }

    int write(String separators) {
        if (latest == null || !proper(separators)) {
            return -1;
        }
        List<String> segments = new ArrayList<>();
        for (List<List<List<List<String>>>> segment : latest) {
            List<String> fields = new ArrayList<>();
            for (List<List<List<String>>> field : segment) {
                fields.add(writeField(field, separators));
            }
            if (segments.isEmpty()) {
                fields.set(0, "HDR" + separators);
            }
            segments.add(String.join(separators.substring(0, 1), fields));
        }
        written = String.join("\r", segments);
        return written.length();
    }

    private static String writeField(List<List<List<String>>> field, String separators) {
        List<String> repetitions = new ArrayList<>();
        for (List<List<String>> repetition : field) {
            List<String> components = new ArrayList<>();
            for (List<String> component : repetition) {
                List<String> subs = new ArrayList<>();
                for (String sub : component) {
                    StringBuilder text = new StringBuilder();
                    for (char c : sub.toCharArray()) {
                        int place = separators.indexOf(c);
                        char escape = separators.charAt(3);
                        text.append(place < 0 ? "" + c : "" + escape + "FSRET".charAt(place) + escape);
                    }
                    subs.add(text.toString());
                }
                components.add(String.join(separators.substring(4, 5), subs));
            }
            repetitions.add(String.join(separators.substring(1, 2), components));
        }
        return String.join(separators.substring(2, 3), repetitions);
    }

    int written(int i) {
        return character(written, i);
    }
}
