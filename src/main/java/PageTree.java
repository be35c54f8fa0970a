import java.util.Arrays;

/** The tree of pages of a document, that may be wrong. DOC.md says what each call promises. */
public final class PageTree {
    private static final int NONE = -1;

    private static final int UNKNOWN = -1;
    private static final int OUTSIDE = -2;
    private static final int WRONG_STATE = -3;
    private static final int NO_ROOM = -4;

    private static final int ROOT = 0;
    private static final int MAX_ITEMS = 200;
    private static final int MAX_KIDS = 40;
    private static final int KEYS = 4;
    private static final int MAX_VALUE = 100000;

    private final Items items;
    private final Order order;
    private final Mender mender;
    private final Balancer balancer;
    private final Labels labels;
    private final Names names;

    public PageTree() {
        items = new Items();
        order = new Order(items);
        mender = new Mender(items);
        balancer = new Balancer(items);
        labels = new Labels();
        names = new Names();
    }

    public int node(int parent, int count) {
        if (items.size() == 0) {
            return parent == NONE ? items.add(false, NONE, count) : UNKNOWN;
        }
        return addLast(parent, false, count);
    }

    public int page(int parent) {
        return addLast(parent, true, 0);
    }

    private int addLast(int parent, boolean isPage, int count) {
        if (!items.isNode(parent)) {
            return UNKNOWN;
        }
        if (items.isFull() || items.hasNoSlotLeft(parent)) {
            return NO_ROOM;
        }
        int item = items.add(isPage, parent, count);
        items.appendKid(parent, item);
        return item;
    }

    public int list(int node, int item) {
        if (!items.isNode(node) || !items.isKnown(item)) {
            return UNKNOWN;
        }
        if (items.hasNoSlotLeft(node)) {
            return NO_ROOM;
        }
        items.appendKid(node, item);
        return items.kidCountOf(node);
    }

    public int inherit(int item, int key, int v) {
        if (!items.isKnown(item)) {
            return UNKNOWN;
        }
        if (!isKey(key) || v < NONE || v > MAX_VALUE) {
            return OUTSIDE;
        }
        items.setOwnValue(item, key, v);
        return 1;
    }

    public int of(int page, int key) {
        if (!items.isPage(page)) {
            return UNKNOWN;
        }
        return isKey(key) ? items.valueOf(page, key) : OUTSIDE;
    }

    private static boolean isKey(int key) {
        return key >= 0 && key < KEYS;
    }

    public int pages() {
        return order.size();
    }

    public int at(int i) {
        return order.pageAt(i);
    }

    public int about(int item, int what) {
        if (!items.isKnown(item)) {
            return UNKNOWN;
        }
        switch (what) {
            case 0:
                return items.isPage(item) ? 1 : 0;
            case 1:
                return items.parentOf(item);
            case 2:
                return items.kidCountOf(item);
            case 3:
                return items.countOf(item);
            case 4:
                return order.placeOf(item);
            default:
                return OUTSIDE;
        }
    }

    public int kid(int node, int k) {
        return items.kidAt(node, k);
    }

    public int mend() {
        return mender.putRight();
    }

    public int told(int i, int what) {
        return mender.tellingAt(i, what);
    }

    public int move(int page, int to) {
        int place = order.placeOf(page);
        if (place == NONE) {
            return UNKNOWN;
        }
        int last = order.size() - 1;
        if (to < 0 || to > last) {
            return OUTSIDE;
        }
        if (last == 0) {
            return place;
        }
        int amongOthers = to == last ? to - 1 : to;
        int neighbour = order.pageAt(amongOthers < place ? amongOthers : amongOthers + 1);
        int node = order.listerOf(neighbour);
        if (items.kidCountWithout(node, page) >= MAX_KIDS) {
            return NO_ROOM;
        }
        items.ownValuesOf(page, page);
        items.dropEverywhere(page);
        // Only now, as the slots behind the page's old ones have come nearer.
        int slot = order.slotOf(neighbour);
        items.insertKid(node, to == last ? slot + 1 : slot, page);
        items.setParent(page, node);
        return to;
    }

    public int copy(int page) {
        if (order.placeOf(page) == NONE) {
            return UNKNOWN;
        }
        int node = order.listerOf(page);
        int slot = order.slotOf(page);
        if (items.isFull() || items.hasNoSlotLeft(node)) {
            return NO_ROOM;
        }
        int twin = items.add(true, node, 0);
        items.ownValuesOf(page, twin);
        items.insertKid(node, slot + 1, twin);
        return twin;
    }

    public int remove(int page) {
        if (order.placeOf(page) == NONE) {
            return UNKNOWN;
        }
        if (order.size() == 1) {
            return WRONG_STATE;
        }
        items.dropEverywhere(page);
        items.setParent(page, NONE);
        return names.forget(page);
    }

    public int label(int from, int style, int first) {
        if (!Labels.isRange(from, style, first)) {
            return OUTSIDE;
        }
        return labels.begin(from, style, first) ? labels.size() : NO_ROOM;
    }

    public int text(int i, int k) {
        return order.pageAt(i) == NONE ? NONE : labels.signOf(i, k);
    }

    public int name(int key, int page) {
        if (order.placeOf(page) == NONE) {
            return UNKNOWN;
        }
        if (!Names.isName(key)) {
            return OUTSIDE;
        }
        if (names.pageOf(key) != NONE) {
            return WRONG_STATE;
        }
        return names.add(key, page) ? names.size() : NO_ROOM;
    }

    public int look(int key) {
        return names.pageOf(key);
    }

    public int balance() {
        int pageCount = order.size();
        if (pageCount == 0) {
            return WRONG_STATE;
        }
        int added = Balancer.nodesFor(pageCount);
        if (items.size() + added > MAX_ITEMS) {
            return NO_ROOM;
        }
        balancer.build(order.takenPages(), pageCount);
        return added;
    }

    public int count(int what) {
        switch (what) {
            case 0:
                return items.size();
            case 1:
                return labels.size();
            case 2:
                return names.size();
            default:
                return OUTSIDE;
        }
    }

    /** Nodes and pages with their lists, parents, counts and own values. */
    private static final class Items {
        private final boolean[] pageFlags = new boolean[MAX_ITEMS];
        private final int[] parents = new int[MAX_ITEMS];
        private final int[] counts = new int[MAX_ITEMS];
        private final int[] kidCounts = new int[MAX_ITEMS];
        private final int[] kids = new int[MAX_ITEMS * MAX_KIDS];
        private final int[] ownValues = new int[MAX_ITEMS * KEYS];
        private int size;
        private int version;

        Items() {
            Arrays.fill(ownValues, NONE);
        }

        int size() {
            return size;
        }

        /** Another number whenever a list has changed, so that the order is walked anew only then. */
        int version() {
            return version;
        }

        boolean isFull() {
            return size >= MAX_ITEMS;
        }

        boolean isKnown(int item) {
            return item >= 0 && item < size;
        }

        boolean isPage(int item) {
            return item >= 0 && item < size && pageFlags[item];
        }

        boolean isNode(int item) {
            return item >= 0 && item < size && !pageFlags[item];
        }

        int add(boolean isPage, int parent, int count) {
            if (size >= MAX_ITEMS) {
                return NONE;
            }
            int item = size;
            size++;
            pageFlags[item] = isPage;
            parents[item] = parent;
            counts[item] = count;
            return item;
        }

        int parentOf(int item) {
            return isKnown(item) ? parents[item] : NONE;
        }

        void setParent(int item, int parent) {
            if (isKnown(item)) {
                parents[item] = parent;
            }
        }

        int countOf(int item) {
            return isKnown(item) ? counts[item] : 0;
        }

        void setCount(int node, int count) {
            if (isKnown(node)) {
                counts[node] = count;
            }
        }

        int kidCountOf(int item) {
            return isKnown(item) ? kidCounts[item] : 0;
        }

        boolean hasNoSlotLeft(int node) {
            return kidCountOf(node) >= MAX_KIDS;
        }

        int kidAt(int node, int slot) {
            return hasSlot(node, slot) ? kids[node * MAX_KIDS + slot] : NONE;
        }

        private boolean hasSlot(int node, int slot) {
            return node >= 0 && node < size && slot >= 0 && slot < kidCounts[node];
        }

        void replaceKid(int node, int slot, int item) {
            if (hasSlot(node, slot)) {
                kids[node * MAX_KIDS + slot] = item;
                version++;
            }
        }

        void appendKid(int node, int item) {
            insertKid(node, kidCountOf(node), item);
        }

        void insertKid(int node, int slot, int item) {
            if (!isNode(node) || slot < 0 || slot > kidCounts[node] || kidCounts[node] >= MAX_KIDS) {
                return;
            }
            int first = node * MAX_KIDS;
            for (int k = kidCounts[node]; k > slot; k--) {
                kids[first + k] = kids[first + k - 1];
            }
            kids[first + slot] = item;
            kidCounts[node]++;
            version++;
        }

        void dropKid(int node, int slot) {
            if (!hasSlot(node, slot)) {
                return;
            }
            int first = node * MAX_KIDS;
            kidCounts[node]--;
            for (int k = slot; k < kidCounts[node]; k++) {
                kids[first + k] = kids[first + k + 1];
            }
            version++;
        }

        void dropEverywhere(int item) {
            for (int node = 0; node < size; node++) {
                dropFromList(node, item);
            }
            version++;
        }

        private void dropFromList(int node, int item) {
            int first = node * MAX_KIDS;
            int kept = 0;
            for (int k = 0; k < kidCounts[node]; k++) {
                int kid = kids[first + k];
                if (kid != item) {
                    kids[first + kept] = kid;
                    kept++;
                }
            }
            kidCounts[node] = kept;
        }

        int kidCountWithout(int node, int item) {
            int others = 0;
            for (int k = 0; k < kidCountOf(node); k++) {
                if (kidAt(node, k) != item) {
                    others++;
                }
            }
            return others;
        }

        void loosenAll() {
            for (int item = 0; item < size; item++) {
                parents[item] = NONE;
                kidCounts[item] = 0;
            }
            version++;
        }

        void setOwnValue(int item, int key, int value) {
            if (isKnown(item) && isKey(key)) {
                ownValues[item * KEYS + key] = value;
            }
        }

        int valueOf(int item, int key) {
            if (!isKey(key)) {
                return NONE;
            }
            int holder = item;
            for (int level = 0; level < MAX_ITEMS && isKnown(holder); level++) {
                int value = ownValues[holder * KEYS + key];
                if (value != NONE) {
                    return value;
                }
                holder = parents[holder];
            }
            return NONE;
        }

        /** The taker's own values become those that the giver has, its parents' among them. */
        void ownValuesOf(int giver, int taker) {
            for (int key = 0; key < KEYS; key++) {
                setOwnValue(taker, key, valueOf(giver, key));
            }
        }

        void copyOwnValues(int giver, int taker) {
            if (!isKnown(giver) || !isKnown(taker)) {
                return;
            }
            for (int key = 0; key < KEYS; key++) {
                ownValues[taker * KEYS + key] = ownValues[giver * KEYS + key];
            }
        }
    }

    /** The walk from the root. It keeps its own stack, as nodes may be nested 200 deep. */
    private abstract static class Walk {
        // Each node is gone into once at most; each of its kids takes a step, and so does its end.
        private static final int MAX_STEPS = MAX_ITEMS * (MAX_KIDS + 1);

        final Items items;
        private final boolean[] met = new boolean[MAX_ITEMS];
        private final int[] way = new int[MAX_ITEMS];
        private final int[] nextSlots = new int[MAX_ITEMS];
        private int depth;

        Walk(Items items) {
            this.items = items;
        }

        abstract void meetFirst(int node, int slot, int kid);

        /** Answers whether the slot still holds a kid, so that the walk goes on behind it. */
        boolean meetNodeAgain(int node, int slot, int kid) {
            return true;
        }

        /** Answers whether the slot still holds a kid, so that the walk goes on behind it. */
        boolean meetPageAgain(int node, int slot, int kid) {
            return true;
        }

        void leave(int node) {
        }

        final void walkAll() {
            for (int i = 0; i < MAX_ITEMS; i++) {
                met[i] = false;
            }
            depth = 0;
            if (items.size() > 0) {
                met[ROOT] = true;
                enter(ROOT);
            }
            for (int step = 0; step < MAX_STEPS && depth > 0; step++) {
                int top = depth - 1;
                int node = way[top];
                int slot = nextSlots[top];
                int kid = items.kidAt(node, slot);
                if (items.isKnown(kid)) {
                    nextSlots[top] = meet(node, slot, kid);
                } else {
                    leave(node);
                    depth--;
                }
            }
        }

        /** Answers the slot at which the walk goes on in the node. */
        private int meet(int node, int slot, int kid) {
            boolean isPage = items.isPage(kid);
            if (met[kid]) {
                boolean stays = isPage ? meetPageAgain(node, slot, kid) : meetNodeAgain(node, slot, kid);
                return stays ? slot + 1 : slot;
            }
            meetFirst(node, slot, kid);
            met[kid] = true;
            if (!isPage) {
                enter(kid);
            }
            return slot + 1;
        }

        private void enter(int node) {
            if (depth < MAX_ITEMS) {
                way[depth] = node;
                nextSlots[depth] = 0;
                depth++;
            }
        }

        final boolean isOnTheWay(int node) {
            for (int level = 0; level < depth; level++) {
                if (way[level] == node) {
                    return true;
                }
            }
            return false;
        }
    }

    /** The pages as the walk takes them, and where it does. */
    private static final class Order extends Walk {
        private final int[] taken = new int[MAX_ITEMS];
        private final int[] places = new int[MAX_ITEMS];
        private final int[] listers = new int[MAX_ITEMS];
        private final int[] slots = new int[MAX_ITEMS];
        private int size;
        private int versionSeen = NONE;

        Order(Items items) {
            super(items);
        }

        private void refresh() {
            if (versionSeen == items.version()) {
                return;
            }
            size = 0;
            Arrays.fill(places, NONE);
            walkAll();
            versionSeen = items.version();
        }

        void meetFirst(int node, int slot, int kid) {
            if (items.isPage(kid) && size < MAX_ITEMS) {
                taken[size] = kid;
                places[kid] = size;
                listers[kid] = node;
                slots[kid] = slot;
                size++;
            }
        }

        int size() {
            refresh();
            return size;
        }

        int pageAt(int place) {
            refresh();
            return place >= 0 && place < size ? taken[place] : NONE;
        }

        /** The row itself, from place 0: to be read before a list changes. */
        int[] takenPages() {
            refresh();
            return taken;
        }

        int placeOf(int item) {
            refresh();
            return isTaken(item) ? places[item] : NONE;
        }

        int listerOf(int page) {
            refresh();
            return isTaken(page) ? listers[page] : NONE;
        }

        int slotOf(int page) {
            refresh();
            return isTaken(page) ? slots[page] : NONE;
        }

        private boolean isTaken(int item) {
            return item >= 0 && item < MAX_ITEMS && places[item] != NONE;
        }
    }

    /** Puts the tree right along the walk, and keeps what it told. */
    private static final class Mender extends Walk {
        private static final int MAX_TOLD = 100;

        private static final int RING = 1;
        private static final int NODE_AGAIN = 2;
        private static final int PAGE_COPIED = 3;
        private static final int COUNT_LIED = 4;
        private static final int PAGE_DROPPED = 5;

        private final int[] kinds = new int[MAX_TOLD];
        private final int[] things = new int[MAX_TOLD];
        private final int[] pagesBefore = new int[MAX_ITEMS];
        private int toldCount;
        private int pagesSoFar;

        Mender(Items items) {
            super(items);
        }

        int putRight() {
            toldCount = 0;
            pagesSoFar = 0;
            walkAll();
            return toldCount;
        }

        int tellingAt(int i, int what) {
            if (i < 0 || i >= toldCount || i >= MAX_TOLD) {
                return NONE;
            }
            switch (what) {
                case 0:
                    return kinds[i];
                case 1:
                    return things[i];
                default:
                    return NONE;
            }
        }

        private void tell(int kind, int thing) {
            if (toldCount < MAX_TOLD) {
                kinds[toldCount] = kind;
                things[toldCount] = thing;
            }
            toldCount++;
        }

        void meetFirst(int node, int slot, int kid) {
            items.setParent(kid, node);
            if (items.isPage(kid)) {
                pagesSoFar++;
            } else {
                pagesBefore[kid] = pagesSoFar;
            }
        }

        boolean meetNodeAgain(int node, int slot, int kid) {
            items.dropKid(node, slot);
            tell(isOnTheWay(kid) ? RING : NODE_AGAIN, kid);
            return false;
        }

        boolean meetPageAgain(int node, int slot, int page) {
            if (items.isFull()) {
                items.dropKid(node, slot);
                tell(PAGE_DROPPED, page);
                return false;
            }
            int twin = items.add(true, node, 0);
            items.copyOwnValues(page, twin);
            items.replaceKid(node, slot, twin);
            pagesSoFar++;
            tell(PAGE_COPIED, page);
            return true;
        }

        void leave(int node) {
            // The root is not met as a kid: for it nothing was noted, and 0 pages came before.
            int below = pagesSoFar - pagesBefore[node];
            if (items.countOf(node) != below) {
                items.setCount(node, below);
                tell(COUNT_LIED, node);
            }
        }
    }

    /** Makes the tree flat anew: new nodes of up to four kids over the pages of the order. */
    private static final class Balancer {
        private static final int WIDTH = 4;

        private final Items items;
        private final int[] row = new int[MAX_ITEMS];
        private int length;

        Balancer(Items items) {
            this.items = items;
        }

        static int nodesFor(int pageCount) {
            int nodes = 0;
            int kids = pageCount;
            for (int level = 0; level < MAX_ITEMS && kids > WIDTH; level++) {
                kids = (kids + WIDTH - 1) / WIDTH;
                nodes += kids;
            }
            return nodes;
        }

        void build(int[] pages, int pageCount) {
            length = Math.min(pageCount, Math.min(pages.length, MAX_ITEMS));
            for (int i = 0; i < length; i++) {
                row[i] = pages[i];
                // Now, while the parents are still there that the values come from.
                items.ownValuesOf(pages[i], pages[i]);
            }
            items.loosenAll();
            for (int level = 0; level < MAX_ITEMS && length > WIDTH; level++) {
                raiseRow();
            }
            hang(ROOT, 0, length);
        }

        private void raiseRow() {
            int raised = 0;
            for (int from = 0; from < length; from += WIDTH) {
                int node = items.add(false, NONE, 0);
                hang(node, from, Math.min(from + WIDTH, length));
                row[raised] = node;
                raised++;
            }
            length = raised;
        }

        private void hang(int node, int from, int to) {
            int below = 0;
            for (int i = from; i < to; i++) {
                int kid = row[i];
                items.appendKid(node, kid);
                items.setParent(kid, node);
                below += items.isPage(kid) ? 1 : items.countOf(kid);
            }
            items.setCount(node, below);
        }
    }

    /** Ranges of labels, and the signs of one label. */
    private static final class Labels {
        private static final int MAX_RANGES = 20;
        private static final int MAX_PLACE = 199;
        private static final int MAX_FIRST = 1000;

        private static final int DIGITS = 0;
        private static final int ROMAN = 1;
        private static final int LETTERS = 2;

        private static final int ALPHABET = 26;
        private static final int GREATEST_UNIT = 1000;
        private static final int[] ROMAN_VALUES = {1000, 900, 500, 400, 100, 90, 50, 40, 10, 9, 5, 4, 1};

        // Label 1199 by letters is the longest, with 47.
        private static final int MAX_SIGNS = 64;

        private final int[] begins = new int[MAX_RANGES];
        private final int[] styles = new int[MAX_RANGES];
        private final int[] firsts = new int[MAX_RANGES];
        private final char[] signs = new char[MAX_SIGNS];
        private int size;
        private int signCount;

        static boolean isRange(int from, int style, int first) {
            return from >= 0 && from <= MAX_PLACE
                && style >= DIGITS && style <= LETTERS
                && first >= 1 && first <= MAX_FIRST;
        }

        int size() {
            return size;
        }

        /** Answers false when there is no room for one more. */
        boolean begin(int from, int style, int first) {
            int range = rangeFrom(from);
            if (range >= MAX_RANGES) {
                return false;
            }
            if (range == size) {
                size++;
            }
            begins[range] = from;
            styles[range] = style;
            firsts[range] = first;
            return true;
        }

        private int rangeFrom(int from) {
            for (int range = 0; range < size; range++) {
                if (begins[range] == from) {
                    return range;
                }
            }
            return size;
        }

        int signOf(int place, int k) {
            int range = rangeAround(place);
            signCount = 0;
            if (range == NONE) {
                writeDigits(place + 1);
            } else {
                write(styles[range], firsts[range] + place - begins[range]);
            }
            return k >= 0 && k < signCount ? signs[k] : NONE;
        }

        private int rangeAround(int place) {
            int nearest = NONE;
            for (int range = 0; range < size; range++) {
                boolean fits = begins[range] <= place;
                if (fits && (nearest == NONE || begins[range] > begins[nearest])) {
                    nearest = range;
                }
            }
            return nearest;
        }

        private void write(int style, int number) {
            if (style == ROMAN) {
                writeRoman(number);
            } else if (style == LETTERS) {
                writeLetters(number);
            } else {
                writeDigits(number);
            }
        }

        private void writeDigits(int number) {
            for (int unit = GREATEST_UNIT; unit > 0; unit /= 10) {
                if (number >= unit) {
                    writeSign((char) ('0' + number / unit % 10));
                }
            }
        }

        private void writeRoman(int number) {
            int rest = number;
            for (int value : ROMAN_VALUES) {
                for (; rest >= value; rest -= value) {
                    writeSigns(romanSigns(value));
                }
            }
        }

        private static String romanSigns(int value) {
            switch (value) {
                case 1000:
                    return "m";
                case 900:
                    return "cm";
                case 500:
                    return "d";
                case 400:
                    return "cd";
                case 100:
                    return "c";
                case 90:
                    return "xc";
                case 50:
                    return "l";
                case 40:
                    return "xl";
                case 10:
                    return "x";
                case 9:
                    return "ix";
                case 5:
                    return "v";
                case 4:
                    return "iv";
                default:
                    return "i";
            }
        }

        private void writeLetters(int number) {
            int before = number - 1;
            char letter = (char) ('a' + before % ALPHABET);
            int times = before / ALPHABET + 1;
            for (int i = 0; i < times; i++) {
                writeSign(letter);
            }
        }

        private void writeSigns(String text) {
            for (int i = 0; i < text.length(); i++) {
                writeSign(text.charAt(i));
            }
        }

        private void writeSign(char sign) {
            if (signCount < MAX_SIGNS) {
                signs[signCount] = sign;
                signCount++;
            }
        }
    }

    /** Names that lead to pages. */
    private static final class Names {
        private static final int MAX_NAMES = 60;
        private static final int MAX_KEY = 9999;

        private final int[] keys = new int[MAX_NAMES];
        private final int[] targets = new int[MAX_NAMES];
        private int size;

        static boolean isName(int key) {
            return key >= 0 && key <= MAX_KEY;
        }

        int size() {
            return size;
        }

        int pageOf(int key) {
            for (int i = 0; i < size; i++) {
                if (keys[i] == key) {
                    return targets[i];
                }
            }
            return NONE;
        }

        /** Answers false when there is no room for one more. */
        boolean add(int key, int page) {
            if (size >= MAX_NAMES) {
                return false;
            }
            keys[size] = key;
            targets[size] = page;
            size++;
            return true;
        }

        /** Answers how many names led to the page. */
        int forget(int page) {
            int kept = 0;
            for (int i = 0; i < size; i++) {
                if (targets[i] != page) {
                    keys[kept] = keys[i];
                    targets[kept] = targets[i];
                    kept++;
                }
            }
            int gone = size - kept;
            size = kept;
            return gone;
        }
    }
}
