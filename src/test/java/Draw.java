import java.util.Arrays;
import java.util.Random;

/** Draws calls from a seed, with numbers that fit the state of a model, and now and then some that do not. */
final class Draw {
    static final String[] NAMES = {"node", "page", "list", "inherit", "of", "pages", "at", "about",
        "kid", "mend", "told", "move", "copy", "remove", "label", "text", "name", "look", "balance", "count"};

    /** How often each call of NAMES comes, by the kind of run. */
    private static final int[][] WEIGHTS = {
        // mixed
        {6, 12, 8, 8, 8, 3, 5, 12, 8, 3, 5, 8, 5, 3, 4, 6, 5, 4, 1, 2},
        // many items in few nodes: full lists, no room for copies
        {4, 60, 20, 4, 4, 1, 2, 4, 6, 2, 6, 10, 20, 2, 1, 2, 1, 1, 1, 1},
        // many rings and twins
        {12, 8, 40, 6, 8, 3, 6, 12, 12, 8, 16, 6, 3, 2, 1, 2, 1, 1, 2, 1},
        // deep trees, values, moves
        {14, 10, 6, 20, 24, 1, 4, 6, 6, 3, 3, 20, 6, 4, 0, 1, 2, 2, 2, 1},
        // labels and names
        {3, 12, 1, 1, 1, 2, 2, 2, 1, 1, 1, 3, 2, 3, 24, 30, 40, 14, 1, 8},
        // few pages: the only one, balanced again and again
        {4, 4, 6, 4, 6, 3, 4, 6, 4, 5, 6, 6, 1, 12, 1, 3, 3, 3, 12, 2},
    };

    /** So that a run comes near 200 items and 40 kids. */
    private static final int[] FILLING = {1, 40, 3, 2, 0, 0, 0, 0, 0, 0, 0, 0, 1, 0, 0, 0, 0, 0, 0, 0};

    private final Random random;
    private final int[] weights;
    private final int filling;
    private int drawn;

    /** Every other six runs begin with filling calls. */
    Draw(int run) {
        random = new Random(run);
        weights = WEIGHTS[run % WEIGHTS.length];
        filling = run / WEIGHTS.length % 2 == 0 ? 0 : 100 + random.nextInt(140);
    }

    Call call(Model model) {
        int which = pick(drawn < filling ? FILLING : weights);
        drawn++;
        return callOf(NAMES[which], model);
    }

    Call callOf(String name, Model model) {
        return new Call(name, arguments(name, model));
    }

    int below(int bound) {
        return random.nextInt(bound);
    }

    private int pick(int[] all) {
        int rest = random.nextInt(Arrays.stream(all).sum());
        for (int i = 0; i < all.length; i++) {
            rest -= all[i];
            if (rest < 0) {
                return i;
            }
        }
        return 0;
    }

    /** Now and then far outside, else from one below the range to one above it. */
    private int around(int below, int above) {
        int dice = random.nextInt(200);
        if (dice == 0) {
            return Integer.MAX_VALUE;
        }
        if (dice == 1) {
            return Integer.MIN_VALUE;
        }
        int low = dice < 12 ? below - 1 : below;
        int high = dice < 12 ? above + 1 : above;
        return low + random.nextInt(Math.max(1, high - low + 1));
    }

    private int anItem(Model model) {
        return around(0, Math.max(0, model.count(0) - 1));
    }

    private int aNode(Model model) {
        if (model.count(0) == 0) {
            return random.nextInt(4) == 0 ? around(-1, 0) : -1;
        }
        for (int i = 0; i < 20; i++) {
            // The square has low numbers come more often, so that lists get full.
            double part = random.nextDouble();
            int item = (int) (part * part * model.count(0));
            if (model.about(item, 0) == 0) {
                return item;
            }
        }
        return anItem(model);
    }

    private int aPage(Model model) {
        int pages = model.pages();
        return pages == 0 || random.nextInt(12) == 0 ? anItem(model) : model.at(random.nextInt(pages));
    }

    private int[] arguments(String name, Model model) {
        int pages = model.pages();
        return switch (name) {
            case "node" -> new int[] {aNode(model), around(-1, 4)};
            case "page" -> new int[] {aNode(model)};
            case "list" -> new int[] {aNode(model), random.nextBoolean() ? anItem(model) : aNode(model)};
            case "inherit" -> new int[] {anItem(model), around(0, 3), random.nextInt(5) == 0 ? -1 : around(0, 100000)};
            case "of" -> new int[] {random.nextBoolean() ? aPage(model) : anItem(model), around(0, 3)};
            case "at" -> new int[] {around(0, pages)};
            case "about" -> new int[] {anItem(model), around(0, 4)};
            case "kid" -> {
                int node = aNode(model);
                yield new int[] {node, around(0, Math.max(0, model.about(node, 2)))};
            }
            case "told" -> new int[] {random.nextInt(3) == 0 ? around(0, 110) : around(0, 6), around(0, 1)};
            case "move" -> new int[] {aPage(model), around(0, Math.max(0, pages - 1))};
            case "copy", "remove" -> new int[] {aPage(model)};
            case "label" -> new int[] {random.nextBoolean() ? around(0, 24) : around(0, 199), around(0, 2),
                random.nextBoolean() ? around(1, 60) : around(1, 1000)};
            case "text" -> new int[] {around(0, Math.max(0, pages - 1)), around(0, 5)};
            case "name" -> new int[] {random.nextInt(4) == 0 ? around(0, 9999) : around(0, 80), aPage(model)};
            case "look" -> new int[] {around(0, 80)};
            case "count" -> new int[] {around(0, 2)};
            default -> new int[] {};
        };
    }
}
