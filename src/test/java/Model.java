import java.util.ArrayList;
import java.util.HashSet;
import java.util.List;
import java.util.Map;
import java.util.Set;
import java.util.TreeMap;

/**
 * The document told once more, as plainly as the Java library allows: objects, recursion, and
 * nothing kept that can be found anew. The class is held against it by ModelTest.
 */
final class Model {
    private static final int KEYS = 4;

    private static final class Item {
        final int number;
        final boolean page;
        Item parent;
        int count;
        final List<Item> kids = new ArrayList<>();
        final int[] own = {-1, -1, -1, -1};

        Item(int number, boolean page, Item parent, int count) {
            this.number = number;
            this.page = page;
            this.parent = parent;
            this.count = count;
        }

        int value(int key) {
            if (own[key] != -1) {
                return own[key];
            }
            return parent == null ? -1 : parent.value(key);
        }

        int[] values() {
            int[] all = new int[KEYS];
            for (int key = 0; key < KEYS; key++) {
                all[key] = value(key);
            }
            return all;
        }

        void own(int[] values) {
            System.arraycopy(values, 0, own, 0, KEYS);
        }
    }

    /** Where the walk takes a page. */
    private record Taken(Item page, Item lister, int slot) {
    }

    private record Range(int style, int first) {
    }

    private record Telling(int kind, int item) {
    }

    private final List<Item> items = new ArrayList<>();
    private final TreeMap<Integer, Range> ranges = new TreeMap<>();
    private final Map<Integer, Item> names = new TreeMap<>();
    private List<Telling> tellings = new ArrayList<>();

    private Item item(int number) {
        return number >= 0 && number < items.size() ? items.get(number) : null;
    }

    private Item nodeItem(int number) {
        Item found = item(number);
        return found == null || found.page ? null : found;
    }

    private Item make(boolean page, Item parent, int count) {
        Item made = new Item(items.size(), page, parent, count);
        items.add(made);
        return made;
    }

    private List<Taken> order() {
        List<Taken> order = new ArrayList<>();
        if (!items.isEmpty()) {
            walk(items.get(0), new HashSet<>(), order);
        }
        return order;
    }

    private void walk(Item node, Set<Item> met, List<Taken> order) {
        met.add(node);
        for (int slot = 0; slot < node.kids.size(); slot++) {
            Item kid = node.kids.get(slot);
            if (met.contains(kid)) {
                continue;
            }
            if (kid.page) {
                met.add(kid);
                order.add(new Taken(kid, node, slot));
            } else {
                walk(kid, met, order);
            }
        }
    }

    private int place(Item page, List<Taken> order) {
        for (int i = 0; i < order.size(); i++) {
            if (order.get(i).page == page) {
                return i;
            }
        }
        return -1;
    }

    private Taken taken(int page) {
        for (Taken each : order()) {
            if (each.page.number == page) {
                return each;
            }
        }
        return null;
    }

    int node(int parent, int count) {
        if (items.isEmpty()) {
            return parent == -1 ? make(false, null, count).number : -1;
        }
        return under(nodeItem(parent), false, count);
    }

    int page(int parent) {
        return under(nodeItem(parent), true, 0);
    }

    private int under(Item parent, boolean page, int count) {
        if (parent == null) {
            return -1;
        }
        if (items.size() == 200 || parent.kids.size() == 40) {
            return -4;
        }
        Item made = make(page, parent, count);
        parent.kids.add(made);
        return made.number;
    }

    int list(int node, int item) {
        Item lister = nodeItem(node);
        if (lister == null || item(item) == null) {
            return -1;
        }
        if (lister.kids.size() == 40) {
            return -4;
        }
        lister.kids.add(item(item));
        return lister.kids.size();
    }

    int inherit(int item, int key, int v) {
        if (item(item) == null) {
            return -1;
        }
        if (key < 0 || key > 3 || v < -1 || v > 100000) {
            return -2;
        }
        item(item).own[key] = v;
        return 1;
    }

    int of(int page, int key) {
        Item found = item(page);
        if (found == null || !found.page) {
            return -1;
        }
        return key < 0 || key > 3 ? -2 : found.value(key);
    }

    int pages() {
        return order().size();
    }

    int at(int i) {
        List<Taken> order = order();
        return i >= 0 && i < order.size() ? order.get(i).page.number : -1;
    }

    int about(int item, int what) {
        Item found = item(item);
        if (found == null) {
            return -1;
        }
        return switch (what) {
            case 0 -> found.page ? 1 : 0;
            case 1 -> found.parent == null ? -1 : found.parent.number;
            case 2 -> found.kids.size();
            case 3 -> found.count;
            case 4 -> place(found, order());
            default -> -2;
        };
    }

    int kid(int node, int k) {
        Item found = nodeItem(node);
        return found != null && k >= 0 && k < found.kids.size() ? found.kids.get(k).number : -1;
    }

    int mend() {
        tellings = new ArrayList<>();
        if (!items.isEmpty()) {
            mendNode(items.get(0), new HashSet<>(), new ArrayList<>());
        }
        return tellings.size();
    }

    private int mendNode(Item node, Set<Item> met, List<Item> way) {
        met.add(node);
        way.add(node);
        int below = 0;
        List<Item> old = new ArrayList<>(node.kids);
        node.kids.clear();
        for (Item kid : old) {
            if (!kid.page && met.contains(kid)) {
                tellings.add(new Telling(way.contains(kid) ? 1 : 2, kid.number));
            } else if (kid.page && met.contains(kid) && items.size() == 200) {
                tellings.add(new Telling(5, kid.number));
            } else if (kid.page && met.contains(kid)) {
                Item twin = make(true, node, 0);
                twin.own(kid.own);
                node.kids.add(twin);
                below++;
                tellings.add(new Telling(3, kid.number));
            } else {
                kid.parent = node;
                node.kids.add(kid);
                met.add(kid);
                below += kid.page ? 1 : mendNode(kid, met, way);
            }
        }
        way.remove(way.size() - 1);
        if (node.count != below) {
            node.count = below;
            tellings.add(new Telling(4, node.number));
        }
        return below;
    }

    int told(int i, int what) {
        if (i < 0 || i >= tellings.size() || i >= 100 || what < 0 || what > 1) {
            return -1;
        }
        return what == 0 ? tellings.get(i).kind : tellings.get(i).item;
    }

    int move(int page, int to) {
        Taken here = taken(page);
        if (here == null) {
            return -1;
        }
        List<Taken> others = order();
        if (to < 0 || to >= others.size()) {
            return -2;
        }
        if (others.size() == 1) {
            return 0;
        }
        others.removeIf(each -> each.page == here.page);
        boolean behind = to == others.size();
        Taken mark = others.get(behind ? to - 1 : to);
        long kidsWithout = mark.lister.kids.stream().filter(kid -> kid != here.page).count();
        if (kidsWithout == 40) {
            return -4;
        }
        here.page.own(here.page.values());
        dropEverywhere(here.page);
        // The mark's first slot in its list is where the walk takes it.
        int slot = mark.lister.kids.indexOf(mark.page);
        mark.lister.kids.add(behind ? slot + 1 : slot, here.page);
        here.page.parent = mark.lister;
        return place(here.page, order());
    }

    private void dropEverywhere(Item gone) {
        for (Item each : items) {
            each.kids.removeIf(kid -> kid == gone);
        }
    }

    int copy(int page) {
        Taken here = taken(page);
        if (here == null) {
            return -1;
        }
        if (items.size() == 200 || here.lister.kids.size() == 40) {
            return -4;
        }
        Item twin = make(true, here.lister, 0);
        twin.own(here.page.values());
        here.lister.kids.add(here.slot + 1, twin);
        return twin.number;
    }

    int remove(int page) {
        Taken here = taken(page);
        if (here == null) {
            return -1;
        }
        if (pages() == 1) {
            return -3;
        }
        dropEverywhere(here.page);
        here.page.parent = null;
        int before = names.size();
        names.values().removeIf(target -> target == here.page);
        return before - names.size();
    }

    int label(int from, int style, int first) {
        if (from < 0 || from > 199 || style < 0 || style > 2 || first < 1 || first > 1000) {
            return -2;
        }
        if (!ranges.containsKey(from) && ranges.size() == 20) {
            return -4;
        }
        ranges.put(from, new Range(style, first));
        return ranges.size();
    }

    int text(int i, int k) {
        if (at(i) == -1) {
            return -1;
        }
        Map.Entry<Integer, Range> range = ranges.floorEntry(i);
        String label = range == null ? "" + (i + 1)
            : signs(range.getValue().style, range.getValue().first + i - range.getKey());
        return k >= 0 && k < label.length() ? label.charAt(k) : -1;
    }

    private static String signs(int style, int number) {
        if (style == 0) {
            return "" + number;
        }
        if (style == 2) {
            return ("" + (char) ('a' + (number - 1) % 26)).repeat((number - 1) / 26 + 1);
        }
        String[] ones = {"", "i", "ii", "iii", "iv", "v", "vi", "vii", "viii", "ix"};
        String[] tens = {"", "x", "xx", "xxx", "xl", "l", "lx", "lxx", "lxxx", "xc"};
        String[] hundreds = {"", "c", "cc", "ccc", "cd", "d", "dc", "dcc", "dccc", "cm"};
        return "m".repeat(number / 1000) + hundreds[number / 100 % 10] + tens[number / 10 % 10]
            + ones[number % 10];
    }

    int name(int key, int page) {
        Taken here = taken(page);
        if (here == null) {
            return -1;
        }
        if (key < 0 || key > 9999) {
            return -2;
        }
        if (names.containsKey(key)) {
            return -3;
        }
        if (names.size() == 60) {
            return -4;
        }
        names.put(key, here.page);
        return names.size();
    }

    int look(int key) {
        return names.containsKey(key) ? names.get(key).number : -1;
    }

    int balance() {
        List<Item> kids = new ArrayList<>();
        for (Taken each : order()) {
            kids.add(each.page);
        }
        if (kids.isEmpty()) {
            return -3;
        }
        int added = 0;
        for (int width = kids.size(); width > 4; added += width) {
            width = width / 4 + (width % 4 == 0 ? 0 : 1);
        }
        if (items.size() + added > 200) {
            return -4;
        }
        for (Item page : kids) {
            page.own(page.values());
        }
        for (Item each : items) {
            each.parent = null;
            each.kids.clear();
        }
        while (kids.size() > 4) {
            List<Item> upper = new ArrayList<>();
            for (Item kid : kids) {
                if (upper.isEmpty() || upper.get(upper.size() - 1).kids.size() == 4) {
                    upper.add(make(false, null, 0));
                }
                hang(upper.get(upper.size() - 1), kid);
            }
            kids = upper;
        }
        items.get(0).count = 0;
        for (Item kid : kids) {
            hang(items.get(0), kid);
        }
        return added;
    }

    private static void hang(Item node, Item kid) {
        node.kids.add(kid);
        kid.parent = node;
        node.count += kid.page ? 1 : kid.count;
    }

    int count(int what) {
        return switch (what) {
            case 0 -> items.size();
            case 1 -> ranges.size();
            case 2 -> names.size();
            default -> -2;
        };
    }
}
