import java.util.Arrays;
import java.util.List;

/**
 * Every call of the face with all edge numbers of the document, in states that are at the edge:
 * each answer, and what a few reading calls show behind it, is held against the model's.
 */
public final class GridTest {
    private static final int MAX_CALLS = 512;
    private static final int READS = 12;

    private static final int[] ITEMS = {Integer.MIN_VALUE, -2, -1, 0, 1, 2, 3, 4, 5, 6, 40, 41, 42, 43, 44,
        197, 198, 199, 200, 201, Integer.MAX_VALUE};
    private static final int[] PLACES = {Integer.MIN_VALUE, -1, 0, 1, 2, 3, 4, 19, 20, 38, 39, 40, 41,
        193, 194, 195, 198, 199, 200, Integer.MAX_VALUE};
    private static final int[] WHATS = {Integer.MIN_VALUE, -1, 0, 1, 2, 3, 4, 5, Integer.MAX_VALUE};
    private static final int[] VALUES = {Integer.MIN_VALUE, -2, -1, 0, 1, 99999, 100000, 100001, Integer.MAX_VALUE};
    private static final int[] FIRSTS = {Integer.MIN_VALUE, -1, 0, 1, 2, 999, 1000, 1001, Integer.MAX_VALUE};
    private static final int[] NAMES = {Integer.MIN_VALUE, -1, 0, 1, 59, 60, 61, 9998, 9999, 10000, Integer.MAX_VALUE};
    private static final int[] TOLD = {Integer.MIN_VALUE, -1, 0, 1, 2, 98, 99, 100, 101, 199, 200, Integer.MAX_VALUE};

    private static final Check CHECK = new Check();

    private interface State {
        void build(Both both);
    }

    public static void main(String[] args) {
        grid("nothing", both -> { });
        grid("a root", both -> both.call("node", -1, 1));
        grid("small and wrong", GridTest::small);
        grid("40 kids, 40 kids less one, 20 ranges", GridTest::fullLists);
        grid("200 items", both -> wide(both, 195));
        grid("199 items, 60 names", GridTest::oneLeft);
        grid("200 items, one behind the other", GridTest::deep);
        grid("one page left, others outside", GridTest::outside);
        CHECK.end();
    }

    private static void grid(String title, State state) {
        String[] alone = {"pages", "mend", "balance"};
        for (String name : alone) {
            calls(title, state, name);
        }
        calls(title, state, "node", ITEMS, VALUES);
        calls(title, state, "page", ITEMS);
        calls(title, state, "list", ITEMS, ITEMS);
        calls(title, state, "inherit", ITEMS, WHATS, VALUES);
        calls(title, state, "of", ITEMS, WHATS);
        calls(title, state, "at", PLACES);
        calls(title, state, "about", ITEMS, WHATS);
        calls(title, state, "kid", ITEMS, PLACES);
        calls(title, state, "told", TOLD, WHATS);
        calls(title, state, "move", ITEMS, PLACES);
        calls(title, state, "copy", ITEMS);
        calls(title, state, "remove", ITEMS);
        calls(title, state, "label", PLACES, WHATS, FIRSTS);
        calls(title, state, "text", PLACES, PLACES);
        calls(title, state, "name", NAMES, ITEMS);
        calls(title, state, "look", NAMES);
        calls(title, state, "count", WHATS);
    }

    /** The call with each number of the first row, each of the second, and so on. */
    private static void calls(String title, State state, String name, int[]... rows) {
        int total = Arrays.stream(rows).mapToInt(row -> row.length).reduce(1, (a, b) -> a * b);
        Both both = null;
        for (int i = 0; i < total; i++) {
            if (both == null || both.calls() + 1 + READS > MAX_CALLS) {
                both = new Both(CHECK, title);
                state.build(both);
            }
            int answer = both.call(name, numbers(i, rows));
            read(both);
            boolean mayHaveChanged = answer >= 0 && !isReading(name);
            if (mayHaveChanged || !both.agree()) {
                both = null;
            }
        }
    }

    private static boolean isReading(String name) {
        return List.of("of", "pages", "at", "about", "kid", "told", "text", "look", "count").contains(name);
    }

    private static int[] numbers(int which, int[][] rows) {
        int[] numbers = new int[rows.length];
        int rest = which;
        for (int r = 0; r < rows.length; r++) {
            numbers[r] = rows[r][rest % rows[r].length];
            rest /= rows[r].length;
        }
        return numbers;
    }

    private static void read(Both both) {
        int pages = both.call("pages");
        int page = both.call("at", pages - 1);
        both.call("about", page, 1);
        both.call("of", page, 0);
        both.call("text", 0, 0);
        both.call("look", 0);
        both.call("about", 0, 2);
        both.call("about", 0, 3);
        both.call("told", 0, 1);
        for (int what = 0; what < 3; what++) {
            both.call("count", what);
        }
    }

    /** 0: [1: page, 2: [3: page, 0, 1], 4: [5: page], 4, 1, 0, 6: no kids]. */
    private static void small(Both both) {
        both.call("node", -1, 9);
        both.call("page", 0);
        both.call("node", 0, 1);
        both.call("page", 2);
        both.call("node", 0, 1);
        both.call("page", 4);
        both.call("list", 2, 0);
        both.call("list", 2, 1);
        both.call("list", 0, 4);
        both.call("list", 0, 1);
        both.call("list", 0, 0);
        both.call("node", 0, Integer.MIN_VALUE);
        both.call("inherit", 0, 0, 100000);
        both.call("inherit", 2, 1, 0);
        both.call("inherit", 1, 3, 7);
        both.call("name", 0, 1);
        both.call("name", 9999, 3);
        both.call("label", 1, 1, 1000);
    }

    /** 0: [1: [3 to 42: pages], 2: [43 to 81: pages]]. */
    private static void fullLists(Both both) {
        both.call("node", -1, 0);
        both.call("node", 0, 40);
        both.call("node", 0, 0);
        for (int i = 0; i < 79; i++) {
            both.call("page", i < 40 ? 1 : 2);
        }
        both.call("inherit", 1, 0, 5);
        for (int i = 0; i < 20; i++) {
            both.call("label", i, i % 3, 50 * i + 1);
        }
    }

    /** A root with nodes 1 to 4 and pages from 5, 40 in each node, the rest in the root. */
    private static void wide(Both both, int pages) {
        both.call("node", -1, 0);
        for (int i = 0; i < 4; i++) {
            both.call("node", 0, 0);
        }
        for (int i = 0; i < pages; i++) {
            both.call("page", i < 160 ? 1 + i / 40 : 0);
        }
        both.call("list", 0, 5);
        both.call("inherit", 1, 0, 5);
        both.call("label", 0, 2, 1000);
    }

    private static void oneLeft(Both both) {
        wide(both, 194);
        for (int i = 0; i < 60; i++) {
            both.call("name", i, 5 + i % 2);
        }
    }

    private static void deep(Both both) {
        both.call("node", -1, 0);
        for (int i = 0; i < 197; i++) {
            both.call("node", i, 0);
        }
        both.call("page", 197);
        both.call("page", 0);
        both.call("list", 197, 0);
        both.call("list", 197, 197);
        both.call("inherit", 0, 0, 1);
        both.call("inherit", 100, 3, 2);
        both.call("mend");
    }

    /** 0: [1: page], 2: [4: page], 3: [5: page], with 2 and 3 nowhere listed. */
    private static void outside(Both both) {
        both.call("node", -1, 0);
        both.call("page", 0);
        both.call("node", 0, 2);
        both.call("node", 0, 3);
        both.call("balance");
        both.call("page", 2);
        both.call("page", 3);
        both.call("inherit", 2, 0, 5);
        both.call("name", 0, 1);
    }
}
