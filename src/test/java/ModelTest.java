import java.util.Arrays;
import java.util.Random;

/** All promises: mixed runs of 512 calls, the same every time, each answer held against the Model's. */
public final class ModelTest {
    private static final int CALLS = 512;
    private static final int RUNS = 1500;
    private static final Check CHECK = new Check("ModelTest");

    /** Each flavour of run is a bag to draw from: what is in it more often is called more often. */
    private static final String[] FLAVOURS = {
        "person mark house day one part strike name leads bridge holds cross back lose anew joins least count"
            + " record given look tell",
        "name name name name name name name name leads leads one part given look tell cross count least joins day",
        "cross cross cross cross cross back back back back name bridge day record record tell lose anew anew one",
        "one one part part strike name name leads look look look mark joins joins least count count tell",
    };

    public static void main(String[] args) {
        for (int run = 0; run < RUNS; run++) {
            oneRun(run);
        }
        wildRun();
        CHECK.end();
    }

    private static void oneRun(int run) {
        Random random = new Random(20261116L + run);
        OtherNames x = new OtherNames();
        Model model = new Model();
        String[] bag = FLAVOURS[run % FLAVOURS.length].split(" ");
        int people = 1 + random.nextInt(26);
        int houses = 1 + random.nextInt(6);
        int left = CALLS;
        for (int p = 0; p < people; p++, left--) {
            both(run, x, model, "person", argumentsOf("person", random, model));
        }
        for (int h = 0; h < houses; h++, left--) {
            both(run, x, model, "house", argumentsOf("house", random, model));
        }
        for (int b = 0; b < 2 * houses; b++, left--) {
            both(run, x, model, "bridge", argumentsOf("bridge", random, model));
        }
        for (; left > 0; left--) {
            String method = bag[random.nextInt(bag.length)];
            boolean rare = method.equals("strike") && random.nextInt(4) != 0;
            both(run, x, model, rare ? "name" : method, argumentsOf(rare ? "name" : method, random, model));
        }
    }

    /** Every method with numbers from all over, in every state that such numbers leave. */
    private static void wildRun() {
        String[] bag = FLAVOURS[0].split(" ");
        for (int run = 0; run < 300; run++) {
            Random random = new Random(7L * run);
            OtherNames x = new OtherNames();
            Model model = new Model();
            for (int call = 0; call < CALLS; call++) {
                String method = bag[random.nextInt(bag.length)];
                int[] a = argumentsOf(method, random, model);
                a[random.nextInt(a.length)] = Check.WILD[random.nextInt(Check.WILD.length)];
                both(RUNS + run, x, model, method, random.nextInt(3) == 0 ? a : argumentsOf(method, random, model));
            }
        }
    }

    private static void both(int run, OtherNames x, Model model, String method, int[] a) {
        CHECK.due("run " + run + ": " + method + Arrays.toString(a), Calls.on(x, method, a), model.call(method, a));
    }

    /** Mostly a number from 0 up to below, at times the ones just outside. */
    private static int upTo(Random random, int below) {
        return random.nextInt(25) == 0 ? (random.nextBoolean() ? -1 : below) : random.nextInt(below);
    }

    private static int[] argumentsOf(String method, Random r, Model model) {
        int people = Math.max(1, model.call("tell", new int[] {0}));
        int houses = Math.max(1, model.call("tell", new int[] {1}));
        int today = model.call("tell", new int[] {2});
        int p = upTo(r, people);
        int h = upTo(r, houses);
        int g = upTo(r, houses);
        int name = r.nextInt(8) == 0 ? upTo(r, 9973) : model.someName(h, r.nextInt(200));
        switch (method) {
            case "person": return new int[] {upTo(r, 2), upTo(r, 3), upTo(r, 8), upTo(r, 2)};
            case "mark": return new int[] {p, upTo(r, 4), upTo(r, r.nextBoolean() ? 3 : 8)};
            case "house": return new int[] {upTo(r, 3), 1 + upTo(r, r.nextBoolean() ? 365 : 20), 1 + upTo(r, 9972),
                upTo(r, 256), r.nextBoolean() ? upTo(r, 6) : upTo(r, 25)};
            case "day": return new int[] {r.nextInt(30) == 0 ? upTo(r, 3001) : today + r.nextInt(12) - 2};
            case "one": return new int[] {p, upTo(r, people)};
            case "part": case "strike": return new int[] {p};
            case "name": return new int[] {h, p};
            case "leads": return new int[] {h, name};
            case "bridge": return new int[] {h, g, Math.max(-1, today + r.nextInt(40) - 20), today + upTo(r, 400)};
            case "holds": return new int[] {h, g, r.nextInt(5) == 0 ? upTo(r, 3001) : today + r.nextInt(60)};
            case "cross": return new int[] {h, g, name, upTo(r, 10)};
            case "back": return new int[] {h, name, upTo(r, 8), upTo(r, 10), upTo(r, 10)};
            case "lose": return new int[] {h};
            case "anew": return new int[] {h, r.nextInt(4) == 0 ? upTo(r, 9973) : model.seedOf(h)};
            case "joins": return new int[] {h, g, upTo(r, 16)};
            case "least": return new int[] {h, upTo(r, 16)};
            case "count": return new int[] {h, upTo(r, 4), upTo(r, r.nextBoolean() ? 3 : 8)};
            case "record": return new int[] {upTo(r, Math.max(1, model.call("tell", new int[] {4}))), upTo(r, 6)};
            case "given": return new int[] {upTo(r, Math.max(1, model.call("tell", new int[] {3}))), upTo(r, 5)};
            case "look": return new int[] {p, upTo(r, 8)};
            case "tell": return new int[] {r.nextBoolean() ? upTo(r, 6) : 10 * (1 + r.nextInt(3)) + upTo(r, 5)};
            default: throw new IllegalStateException(method);
        }
    }
}
