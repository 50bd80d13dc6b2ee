import java.util.ArrayList;
import java.util.LinkedHashMap;
import java.util.List;
import java.util.Map;

/**
 * Calls told as text, "house 0 1 7 3 0; name 0 0", that are made on a new object whenever something is asked:
 * so all can be looked at without one object ever seeing more than the 512 calls that are promised.
 */
final class Story {
    private static final int MOST_CALLS = 512;
    private static final int MOST_HOUSES = 5;
    private static final int MOST_PEOPLE = 24;
    private static final List<Call> READINGS = readings();

    private final List<Call> calls;
    private Map<String, Integer> seen;

    private record Call(String text, String method, int[] numbers) {
        static Call of(String text) {
            String[] words = text.trim().split(" ");
            int[] numbers = new int[words.length - 1];
            for (int i = 0; i < numbers.length; i++) {
                numbers[i] = Integer.parseInt(words[i + 1]);
            }
            return new Call(text.trim(), words[0], numbers);
        }

        static List<Call> allOf(String text) {
            List<Call> all = new ArrayList<>();
            for (String each : text.split(";")) {
                if (!each.isBlank()) {
                    all.add(of(each));
                }
            }
            return all;
        }

        int on(OtherNames x) {
            return Calls.on(x, method, numbers);
        }
    }

    private Story(List<Call> calls) {
        this.calls = calls;
    }

    static Story of(String text) {
        return new Story(Call.allOf(text));
    }

    Story then(String text) {
        return times(1, text);
    }

    Story times(int times, String text) {
        List<Call> longer = new ArrayList<>(calls);
        List<Call> more = Call.allOf(text);
        for (int i = 0; i < times; i++) {
            longer.addAll(more);
        }
        return new Story(longer);
    }

    /** What the last call of the text answers. */
    int answer(String text) {
        List<Call> last = Call.allOf(text);
        if (calls.size() + last.size() > MOST_CALLS) {
            throw new IllegalStateException("more calls than are promised: " + calls.size());
        }
        OtherNames x = told();
        int answer = 0;
        for (Call call : last) {
            answer = call.on(x);
        }
        return answer;
    }

    /** All that can be seen after this story, and what each thing that could be done next would answer. */
    Map<String, Integer> seen() {
        if (seen == null) {
            seen = lookAround();
        }
        return new LinkedHashMap<>(seen);
    }

    private Map<String, Integer> lookAround() {
        Map<String, Integer> seen = new LinkedHashMap<>();
        read(READINGS, seen);
        read(table("given", answer("tell 3"), 5), seen);
        read(table("record", answer("tell 4"), 6), seen);
        List<Call> leads = new ArrayList<>();
        for (int[] name : namesGiven()) {
            leads.add(Call.of("leads " + name[0] + " " + name[1]));
        }
        read(leads, seen);
        for (String doing : doings()) {
            seen.put(doing, answer(doing));
        }
        return seen;
    }

    private OtherNames told() {
        OtherNames x = new OtherNames();
        for (Call call : calls) {
            call.on(x);
        }
        return x;
    }

    private void read(List<Call> readings, Map<String, Integer> seen) {
        OtherNames x = null;
        int left = 0;
        for (Call reading : readings) {
            if (left == 0) {
                x = told();
                left = MOST_CALLS - calls.size();
            }
            if (left <= 0) {
                throw new IllegalStateException("no call is left to look with");
            }
            seen.put(reading.text, reading.on(x));
            left--;
        }
    }

    private static List<Call> table(String method, int rows, int columns) {
        List<Call> all = new ArrayList<>();
        for (int i = -1; i <= rows; i++) {
            for (int what = -1; what <= columns; what++) {
                all.add(Call.of(method + " " + i + " " + what));
            }
        }
        return all;
    }

    private List<int[]> namesGiven() {
        Map<String, Integer> given = new LinkedHashMap<>();
        int size = answer("tell 3");
        read(table("given", size, 5), given);
        List<int[]> names = new ArrayList<>();
        for (int i = 0; i < size; i++) {
            names.add(new int[] {given.get("given " + i + " 0"), given.get("given " + i + " 1")});
        }
        return names;
    }

    private static List<Call> readings() {
        List<Call> all = new ArrayList<>();
        for (int what = -1; what <= 40; what++) {
            all.add(Call.of("tell " + what));
        }
        all.addAll(table("look", MOST_PEOPLE, 8));
        for (int h = 0; h < MOST_HOUSES; h++) {
            for (int marks = 0; marks < 16; marks++) {
                all.add(Call.of("least " + h + " " + marks));
            }
            for (int cell = 0; cell < 32; cell++) {
                all.add(Call.of("count " + h + " " + cell / 8 + " " + cell % 8));
            }
            for (int g = 0; g < MOST_HOUSES; g++) {
                for (int day : new int[] {0, 1, 2, 4, 5, 9, 10, 11, 20, 2999, 3000}) {
                    all.add(Call.of("holds " + h + " " + g + " " + day));
                }
                for (int marks : new int[] {0, 1, 2, 4, 8, 15}) {
                    all.add(Call.of("joins " + h + " " + g + " " + marks));
                }
            }
        }
        return all;
    }

    /** What no reading shows (seeds, reasons, kinds, spans) shows itself in what can be done. */
    private List<String> doings() {
        List<String> all = new ArrayList<>();
        all.add("person 7 0 7 0");
        all.add("house 1 2 3 4 5");
        all.add("day 0");
        for (int p = 0; p < answer("tell 0"); p++) {
            all.add("one 0 " + p);
            all.add("part " + p);
            all.add("strike " + p);
        }
        for (int h = 0; h < answer("tell 1"); h++) {
            all.add("lose " + h);
            all.add("bridge " + h + " " + (h + 1) + " 0 0");
            for (int p = 0; p < answer("tell 0"); p++) {
                all.add("name " + h + " " + p);
                all.add("day 3000; name " + h + " " + p);
            }
        }
        int[] namesOfHouse = new int[MOST_HOUSES];
        for (int[] name : namesGiven()) {
            // The first name of a house is its seed; two of each house are enough to look at.
            if (namesOfHouse[name[0]]++ < 2) {
                all.addAll(doingsWith(name[0], name[1]));
            }
        }
        return all;
    }

    private static List<String> doingsWith(int h, int name) {
        List<String> all = new ArrayList<>();
        all.add("anew " + h + " " + name);
        for (int reason = 0; reason < 8; reason++) {
            all.add("back " + h + " " + name + " " + reason + " 8 9");
        }
        for (int g = 0; g < MOST_HOUSES; g++) {
            all.add("cross " + h + " " + g + " " + name + " 9");
        }
        return all;
    }
}
