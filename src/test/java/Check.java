import java.util.Arrays;
import java.util.LinkedHashSet;
import java.util.List;
import java.util.Map;
import java.util.Set;

/** Counts and prints the answers of one test that are not as due. */
final class Check {
    static final int[] WILD = {
        Integer.MIN_VALUE, Integer.MIN_VALUE + 1, -1000000, -11, -2, -1, 9974, 1000000,
        Integer.MAX_VALUE - 1, Integer.MAX_VALUE
    };

    private static final int UNSEEN = -1000000007;

    /** What these answer when they are refused is false; of the others it is NONE. */
    private static final List<String> BOOLEANS =
            Arrays.asList("mark", "day", "one", "part", "strike", "bridge", "lose", "anew");

    private final String test;
    private int calls;
    private int wrong;

    Check(String test) {
        this.test = test;
    }

    void due(String call, int got, int want) {
        calls++;
        if (got != want) {
            wrong++;
            System.out.println(test + ": " + call + " answered " + got + ", due is " + want);
        }
    }

    void due(String call, boolean got, boolean want) {
        due(call, got ? 1 : 0, want ? 1 : 0);
    }

    /** The last call of the text, made after the story. */
    void answers(Story story, String text, int want) {
        due(text, story.answer(text), want);
    }

    /** The call is refused, and all is as it was. */
    void refused(Story story, String call) {
        answers(story, call, refusalOf(call));
        same("after the refused " + call, story.then(call).seen(), story.seen());
    }

    /** The call is refused, and all is as it was, but for the entry that THE RECORD has got. */
    void refusedOnRecord(Story story, String call, int... entry) {
        answers(story, call, refusalOf(call));
        Map<String, Integer> wanted = story.seen();
        int size = wanted.get("tell 4");
        wanted.put("tell 4", size + 1);
        for (int what = -1; what <= 6; what++) {
            wanted.put("record " + size + " " + what, what >= 0 && what < 6 ? entry[what] : -1);
            wanted.put("record " + (size + 1) + " " + what, -1);
        }
        same("after the refused " + call, story.then(call).seen(), wanted);
    }

    void same(String when, Map<String, Integer> got, Map<String, Integer> want) {
        Set<String> all = new LinkedHashSet<>(want.keySet());
        all.addAll(got.keySet());
        for (String each : all) {
            due(when + ": " + each, got.getOrDefault(each, UNSEEN), want.getOrDefault(each, UNSEEN));
        }
    }

    private static int refusalOf(String call) {
        return BOOLEANS.contains(call.split(" ")[0]) ? 0 : -1;
    }

    void end() {
        System.out.println(test + ": " + calls + " answers, " + wrong + " not as due");
        if (wrong != 0) {
            System.exit(1);
        }
    }
}
