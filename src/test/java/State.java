import java.util.ArrayList;
import java.util.List;
import java.util.Map;
import java.util.TreeMap;

/** All that can be read of an object behind some calls, read from as many like objects as 512 calls each need. */
final class State {
    private static final int MAX_CALLS = 512;

    /** An item as about(), kid() and of() tell it; a node's values are all -1. */
    record Item(boolean page, int parent, int count, int place, List<Integer> kids, List<Integer> values) {
    }

    final List<Item> items = new ArrayList<>();
    final List<Integer> order = new ArrayList<>();
    final List<String> labels = new ArrayList<>();
    final List<String> told = new ArrayList<>();
    final Map<Integer, Integer> names = new TreeMap<>();
    final int ranges;
    final int nameCount;

    private final List<Call> calls;
    private PageTree tree;
    private int left;

    State(List<Call> calls) {
        this.calls = calls;
        int size = read("count", 0);
        ranges = read("count", 1);
        nameCount = read("count", 2);
        for (int item = 0; item < size; item++) {
            items.add(item(item));
        }
        int pages = read("pages");
        for (int i = 0; i < pages; i++) {
            order.add(read("at", i));
            labels.add(label(i));
        }
        for (int i = 0; read("told", i, 0) != -1; i++) {
            told.add(read("told", i, 0) + ":" + read("told", i, 1));
        }
        for (Call call : calls) {
            if (call.name().equals("name") && read("look", call.args()[0]) != -1) {
                names.put(call.args()[0], read("look", call.args()[0]));
            }
        }
    }

    /** All of it, in a form that can be compared and shown. */
    String all() {
        return items + " " + order + " " + labels + " " + told + " " + names + " " + ranges + " " + nameCount;
    }

    private int read(String name, int... args) {
        if (left == 0) {
            tree = new PageTree();
            for (Call call : calls) {
                call.on(tree);
            }
            left = MAX_CALLS - calls.size();
        }
        left--;
        return new Call(name, args).on(tree);
    }

    private Item item(int item) {
        boolean page = read("about", item, 0) == 1;
        List<Integer> kids = new ArrayList<>();
        int kidCount = read("about", item, 2);
        for (int k = 0; k < kidCount; k++) {
            kids.add(read("kid", item, k));
        }
        List<Integer> values = new ArrayList<>();
        for (int key = 0; key < 4; key++) {
            values.add(read("of", item, key));
        }
        return new Item(page, read("about", item, 1), read("about", item, 3), read("about", item, 4), kids, values);
    }

    private String label(int place) {
        StringBuilder text = new StringBuilder();
        for (int sign = read("text", place, 0); sign != -1; sign = read("text", place, text.length())) {
            text.append((char) sign);
        }
        return text.toString();
    }
}
