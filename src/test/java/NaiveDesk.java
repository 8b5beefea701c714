import java.util.ArrayList;
import java.util.Collections;
import java.util.HashMap;
import java.util.HashSet;
import java.util.List;
import java.util.Map;
import java.util.Set;
import java.util.TreeMap;

/**
 * The document told again with texts, lists and copies, and as few thoughts of its own as it
 * goes: what MemoryDesk answers is compared with it.
 */
final class NaiveDesk {
    private static final int NONE = -1;
    private static final Map<String, String> COMMON = new HashMap<>();

    private static final class Segment {
        String source;
        int stage = 0;
        int translator = NONE;
        int band = NONE;
        int percent = NONE;
        int pay = 0;
        int earlier = 0;
        int reviser = NONE;
        int changed = 0;
        int rateThen = 0;
    }

    private static final class Data {
        List<Segment> segments = new ArrayList<>();
        List<String> memory = new ArrayList<>();
        /** The numbers that are kept by name, such as "rate 2" or "proposal 7 3". */
        Map<String, Integer> numbers = new TreeMap<>();

        int get(String name) {
            return numbers.get(name);
        }

        void put(String name, int value) {
            numbers.put(name, value);
        }

        void increase(String name, int by) {
            numbers.merge(name, by, Integer::sum);
        }

        Data copy() {
            Data copy = new Data();
            for (Segment s : segments) {
                Segment t = new Segment();
                t.source = s.source;
                t.stage = s.stage;
                t.translator = s.translator;
                t.band = s.band;
                t.percent = s.percent;
                t.pay = s.pay;
                t.earlier = s.earlier;
                t.reviser = s.reviser;
                t.changed = s.changed;
                t.rateThen = s.rateThen;
                copy.segments.add(t);
            }
            copy.memory.addAll(memory);
            copy.numbers.putAll(numbers);
            return copy;
        }
    }

    private Data data = new Data();
    private final List<Data> saves = new ArrayList<>();
    private String buffer = "";

    NaiveDesk() {
        int[] percents = {10, 30, 60, 80, 100};
        for (int t = 0; t < 4; t++) {
            data.put("rate " + t, 10);
            for (String name : new String[] {"earned ", "delivered ", "changed ", "corrected "}) {
                data.put(name + t, 0);
            }
        }
        for (int b = 0; b < 5; b++) {
            data.put("percent " + b, percents[b]);
            data.put("words " + b, 0);
            data.put("money " + b, 0);
        }
        for (int w = 0; w < 8; w++) {
            data.put("ruling " + w, NONE);
            for (int t = 0; t < 4; t++) {
                data.put("proposal " + w + " " + t, NONE);
            }
        }
        data.put("setting 0", 30);
        data.put("setting 1", 50);
    }

    // ---- checks

    private static void index(boolean good) {
        if (!good) {
            throw new IndexOutOfBoundsException();
        }
    }

    private static void argument(boolean good) {
        if (!good) {
            throw new IllegalArgumentException();
        }
    }

    private static void state(boolean good) {
        if (!good) {
            throw new IllegalStateException();
        }
    }

    private static boolean in(int value, int from, int to) {
        return from <= value && value <= to;
    }

    private Segment at(int segment) {
        index(in(segment, 0, data.segments.size() - 1));
        return data.segments.get(segment);
    }

    private void save() {
        saves.add(data.copy());
        if (saves.size() > 6) {
            saves.remove(0);
        }
    }

    // ---- rows

    /** Of the longest common rows the first one. */
    static String commonRow(String one, String other) {
        if (one.isEmpty() || other.isEmpty()) {
            return "";
        }
        String key = one + "|" + other;
        String known = COMMON.get(key);
        if (known != null) {
            return known;
        }
        String best = better(commonRow(one.substring(1), other), commonRow(one, other.substring(1)));
        if (one.charAt(0) == other.charAt(0)) {
            best = better(best, one.charAt(0) + commonRow(one.substring(1), other.substring(1)));
        }
        COMMON.put(key, best);
        return best;
    }

    private static String better(String a, String b) {
        if (a.length() != b.length()) {
            return a.length() > b.length() ? a : b;
        }
        return a.compareTo(b) <= 0 ? a : b;
    }

    static void forget() {
        if (COMMON.size() > 1000000) {
            COMMON.clear();
        }
    }

    private static int match(String a, String b) {
        return 200 * commonRow(a, b).length() / (a.length() + b.length());
    }

    private static int match(String source, List<String> memory) {
        int best = 0;
        for (String row : memory) {
            best = Math.max(best, match(source, row));
        }
        return best;
    }

    private static int bandOf(int match) {
        return match == 100 ? 0 : match >= 85 ? 1 : match >= 70 ? 2 : match >= 50 ? 3 : 4;
    }

    private int percentNow(String source, List<String> memory) {
        return data.get("percent " + bandOf(match(source, memory)));
    }

    private static List<String> remembering(List<String> memory, String source) {
        List<String> then = new ArrayList<>(memory);
        then.add(source);
        return then.size() > 30 ? then.subList(1, then.size()) : then;
    }

    private boolean disputed(int word) {
        return data.get("ruling " + word) == NONE && unlike(word) >= 2;
    }

    private int unlike(int word) {
        Set<Integer> proposals = new HashSet<>();
        for (int t = 0; t < 4; t++) {
            proposals.add(data.get("proposal " + word + " " + t));
        }
        proposals.remove(NONE);
        return proposals.size();
    }

    private boolean disputed(String source) {
        return source.chars().anyMatch(c -> disputed(c - 'a'));
    }

    private void fix(Segment s) {
        s.band = bandOf(match(s.source, data.memory));
        s.percent = data.get("percent " + s.band);
    }

    // ---- the calls

    private int replace(String name, int value) {
        save();
        int previous = data.get(name);
        data.put(name, value);
        return previous;
    }

    int rate(int translator, int rate) {
        index(in(translator, 0, 3));
        argument(in(rate, 1, 99));
        return replace("rate " + translator, rate);
    }

    int pays(int band, int percent) {
        index(in(band, 0, 4));
        argument(in(percent, 0, 100));
        return replace("percent " + band, percent);
    }

    int set(int setting, int value) {
        index(in(setting, 0, 1));
        argument(in(value, 0, setting == 0 ? 100 : 200));
        return replace("setting " + setting, value);
    }

    int assign(int segment, int translator) {
        Segment s = at(segment);
        index(in(translator, 0, 3));
        state(s.stage == 0);
        save();
        s.stage = 1;
        s.translator = translator;
        fix(s);
        return s.band;
    }

    int deliver(int segment) {
        Segment s = at(segment);
        state(s.stage == 1 && !disputed(s.source));
        save();
        s.stage = 2;
        s.rateThen = data.get("rate " + s.translator);
        s.pay = s.source.length() * s.rateThen * s.percent / 100;
        data.increase("earned " + s.translator, s.pay);
        data.increase("delivered " + s.translator, s.source.length());
        data.increase("words " + s.band, s.source.length());
        data.increase("money " + s.band, s.pay);
        data.memory = new ArrayList<>(remembering(data.memory, s.source));
        return s.pay;
    }

    int revise(int segment, int translator, int changed) {
        Segment s = at(segment);
        index(in(translator, 0, 3));
        argument(in(changed, 0, s.source.length()));
        state(s.stage == 2 && s.translator != translator);
        save();
        int fee = s.source.length() * data.get("rate " + translator) * data.get("setting 0") / 100;
        int then = Math.max(0, s.pay - changed * s.rateThen * data.get("setting 1") / 100);
        data.increase("earned " + translator, fee);
        data.increase("earned " + s.translator, then - s.pay);
        data.increase("changed " + translator, changed);
        data.increase("corrected " + s.translator, changed);
        s.pay = then;
        s.stage = 3;
        s.reviser = translator;
        s.changed = changed;
        return then;
    }

    int propose(int word, int translator, int proposal) {
        index(in(word, 0, 7) && in(translator, 0, 3));
        argument(in(proposal, -1, 9));
        state(data.get("ruling " + word) == NONE);
        return replace("proposal " + word + " " + translator, proposal);
    }

    int rule(int word, int proposal) {
        index(in(word, 0, 7));
        argument(in(proposal, 0, 9));
        int same = 0;
        int others = 0;
        for (int t = 0; t < 4; t++) {
            int held = data.get("proposal " + word + " " + t);
            same += held == proposal ? 1 : 0;
            others += held != proposal && held != NONE ? 1 : 0;
        }
        state(data.get("ruling " + word) == NONE && same > 0);
        replace("ruling " + word, proposal);
        return others;
    }

    int append(int code) {
        argument(in(code, 33, 126));
        state(buffer.length() < 60);
        buffer += (char) code;
        return buffer.length();
    }

    int clearBuffer() {
        int length = buffer.length();
        buffer = "";
        return length;
    }

    int firstError() {
        for (int end = 1; end <= buffer.length(); end++) {
            if (!buffer.substring(0, end).matches("([a-h]{1,12};)*[a-h]{0,12}")) {
                return end - 1;
            }
        }
        return buffer.length();
    }

    private boolean complete() {
        return buffer.matches("[a-h]{1,12}(;[a-h]{1,12})*");
    }

    int add() {
        argument(complete());
        String[] sources = buffer.split(";");
        state(data.segments.size() + sources.length <= 10);
        save();
        for (String source : sources) {
            Segment s = new Segment();
            s.source = source;
            data.segments.add(s);
        }
        buffer = "";
        return data.segments.size();
    }

    int change(int segment) {
        Segment s = at(segment);
        argument(complete() && !buffer.contains(";"));
        save();
        s.source = buffer;
        buffer = "";
        if (s.stage != 0) {
            s.stage = 1;
            s.earlier += s.pay;
            s.pay = 0;
            s.reviser = NONE;
            s.changed = 0;
            fix(s);
        }
        return s.stage;
    }

    int undo() {
        state(!saves.isEmpty());
        data = saves.remove(saves.size() - 1);
        return saves.size();
    }

    int segment(int segment, int what) {
        Segment s = at(segment);
        argument(in(what, 0, 11));
        int match = match(s.source, data.memory);
        int best = NONE;
        for (int row = 0; row < data.memory.size(); row++) {
            best = match(s.source, data.memory.get(row)) == match ? row : best;
        }
        return new int[] {s.source.length(), s.stage, s.translator, match, best, s.band, s.percent,
            s.pay, s.earlier, s.reviser, s.changed, disputed(s.source) ? 1 : 0}[what];
    }

    private static int wordOf(String row, int place) {
        argument(in(place, 0, 11));
        return place < row.length() ? row.charAt(place) - 'a' : NONE;
    }

    int word(int segment, int place) {
        return wordOf(at(segment).source, place);
    }

    int remembered(int row, int place) {
        index(in(row, 0, data.memory.size() - 1));
        return wordOf(data.memory.get(row), place);
    }

    int translator(int translator, int what) {
        index(in(translator, 0, 3));
        argument(in(what, 0, 6));
        if (what == 2) {
            return (int) data.segments.stream()
                    .filter(s -> s.stage == 1 && s.translator == translator).count();
        }
        if (what == 6) {
            int found = 0;
            for (int w = 0; w < 8; w++) {
                found += data.get("proposal " + w + " " + translator) == NONE ? 0 : 1;
            }
            return found;
        }
        String[] names = {"rate ", "earned ", "", "delivered ", "changed ", "corrected "};
        return data.get(names[what] + translator);
    }

    int term(int word, int what) {
        index(in(word, 0, 7));
        argument(in(what, 0, 7));
        switch (what) {
            case 4: return data.get("ruling " + word);
            case 5: return disputed(word) ? 1 : 0;
            case 6: return unlike(word);
            case 7:
                int found = 0;
                for (Segment s : data.segments) {
                    found += Collections.frequency(List.of(s.source.split("")), "" + (char) ('a' + word));
                }
                return found;
            default: return data.get("proposal " + word + " " + what);
        }
    }

    int band(int band, int what) {
        index(in(band, 0, 4));
        argument(in(what, 0, 2));
        return data.get(new String[] {"percent ", "words ", "money "}[what] + band);
    }

    private int sum(String name, int howMany) {
        int sum = 0;
        for (int i = 0; i < howMany; i++) {
            sum += data.get(name + i);
        }
        return sum;
    }

    int count(int what) {
        argument(in(what, 0, 11));
        int found = 0;
        switch (what) {
            case 0: return data.segments.size();
            case 5: return data.memory.size();
            case 6: return data.segments.stream().mapToInt(s -> s.source.length()).sum();
            case 7: return sum("delivered ", 4);
            case 8: return sum("earned ", 4);
            case 9:
                for (int w = 0; w < 8; w++) {
                    found += disputed(w) ? 1 : 0;
                }
                return found;
            case 10:
                for (int w = 0; w < 8; w++) {
                    found += data.get("ruling " + w) == NONE ? 0 : 1;
                }
                return found;
            case 11: return saves.size();
            default: return (int) data.segments.stream().filter(s -> s.stage == what - 1).count();
        }
    }

    int setting(int setting) {
        index(in(setting, 0, 1));
        return data.get("setting " + setting);
    }

    int near(int segment, int row, int what) {
        Segment s = at(segment);
        index(in(row, 0, data.memory.size() - 1));
        argument(in(what, 0, 2));
        String other = data.memory.get(row);
        int length = commonRow(s.source, other).length();
        float likeness = (float) (2 * length) / (s.source.length() + other.length());
        return new int[] {match(s.source, other), length, Float.floatToIntBits(likeness)}[what];
    }

    int common(int segment, int other, int place) {
        return wordOf(commonRow(at(segment).source, at(other).source), place);
    }

    int ifPaid(int segment, int translator) {
        Segment s = at(segment);
        index(in(translator, 0, 3));
        int percent = s.stage == 0 ? percentNow(s.source, data.memory) : s.percent;
        return s.source.length() * data.get("rate " + translator) * percent / 100;
    }

    private int cost(String first, String second) {
        return first.length() * percentNow(first, data.memory)
                + second.length() * percentNow(second, remembering(data.memory, first));
    }

    int orderMatters(int first, int second) {
        Segment a = at(first);
        Segment b = at(second);
        argument(first != second);
        state(a.stage == 0 && b.stage == 0);
        return cost(a.source, b.source) - cost(b.source, a.source);
    }

    int saved() {
        int sum = 0;
        for (Segment s : data.segments) {
            sum += s.source.length() * (100 - percentNow(s.source, data.memory));
        }
        return count(6) == 0 ? 0 : Float.floatToIntBits((float) sum / (float) (100 * count(6)));
    }

    double wordCost() {
        return count(7) == 0 ? 0.0 : (double) count(8) / count(7);
    }

    long digest() {
        List<Long> values = new ArrayList<>();
        for (int i = 0; i < 12; i++) {
            values.add((long) count(i));
        }
        values.add((long) setting(0));
        values.add((long) setting(1));
        for (int i = 0; i < 28; i++) {
            values.add((long) translator(i / 7, i % 7));
        }
        for (int i = 0; i < 64; i++) {
            values.add((long) term(i / 8, i % 8));
        }
        for (int i = 0; i < 15; i++) {
            values.add((long) band(i / 3, i % 3));
        }
        for (int s = 0; s < data.segments.size(); s++) {
            for (int i = 0; i < 12; i++) {
                values.add((long) segment(s, i));
            }
            data.segments.get(s).source.chars().forEach(c -> values.add((long) c - 'a'));
            for (int t = 0; t < 4; t++) {
                values.add((long) ifPaid(s, t));
            }
            for (int i = 0; i < 3; i++) {
                values.add((long) common(s, 0, i));
            }
        }
        for (int r = 0; r < data.memory.size(); r++) {
            data.memory.get(r).chars().forEach(c -> values.add((long) c - 'a'));
            for (int i = 0; i < 3; i++) {
                values.add((long) near(0, r, i));
            }
        }
        values.add((long) saved());
        values.add(Double.doubleToLongBits(wordCost()));
        values.add((long) buffer.length());
        buffer.chars().forEach(c -> values.add((long) c));
        long hash = 2531;
        for (long value : values) {
            hash = 31 * hash + value;
        }
        return hash;
    }
}
