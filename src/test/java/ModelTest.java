import java.util.TreeSet;

/** Many runs of mixed calls, up to 512 on an object, each answer held against the model's. */
public final class ModelTest {
    private static final int RUNS = 6000;
    private static final int CALLS = 512;

    private static final Check CHECK = new Check();
    private static final TreeSet<String> SEEN = new TreeSet<>();

    public static void main(String[] args) {
        int runs = args.length > 0 ? Integer.parseInt(args[0]) : RUNS;
        int from = args.length > 1 ? Integer.parseInt(args[1]) : 0;
        for (int run = from; run < from + runs; run++) {
            if (!agrees(run)) {
                break;
            }
        }
        if (args.length == 0) {
            everyRefusalWasSeen();
        }
        CHECK.end();
    }

    private static boolean agrees(int run) {
        Draw draw = new Draw(run);
        Both both = new Both(CHECK, "run " + run);
        while (both.agree() && both.calls() < CALLS) {
            Call call = draw.call(both.model());
            int answer = both.call(call.name(), call.args());
            SEEN.add(call.name() + (answer < 0 ? answer : ""));
        }
        return both.agree();
    }

    /** So that the runs are known to come to every refusal of the document. */
    private static void everyRefusalWasSeen() {
        String[] refusals = {"node-1", "node-4", "page-1", "page-4", "list-1", "list-4", "inherit-1",
            "inherit-2", "of-1", "of-2", "at-1", "about-1", "about-2", "kid-1", "told-1", "move-1", "move-2",
            "move-4", "copy-1", "copy-4", "remove-1", "remove-3", "label-2", "label-4", "text-1", "name-1",
            "name-2", "name-3", "name-4", "look-1", "balance-3", "balance-4", "count-2"};
        for (String refusal : refusals) {
            CHECK.due("runs that come to " + refusal, SEEN.contains(refusal) ? 1 : 0, 1);
        }
        for (String name : Draw.NAMES) {
            CHECK.due("runs that come to " + name, SEEN.contains(name) ? 1 : 0, 1);
        }
    }
}
