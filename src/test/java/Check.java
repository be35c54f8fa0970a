/** Counts the answers that are not the ones that are due. */
final class Check {
    private int wrong;

    void due(String call, int got, int want) {
        if (got != want) {
            wrong++;
            System.out.println(call + " answered " + got + ", due is " + want);
        }
    }

    /** The order of a tree's pages is these, and no more. */
    void order(String when, PageTree tree, int... pages) {
        due(when + ": pages()", tree.pages(), pages.length);
        for (int i = 0; i < pages.length; i++) {
            due(when + ": at(" + i + ")", tree.at(i), pages[i]);
            due(when + ": about(" + pages[i] + ", 4)", tree.about(pages[i], 4), i);
        }
        due(when + ": at(" + pages.length + ")", tree.at(pages.length), -1);
    }

    /** The kids of a node are these, and no more. */
    void kids(String when, PageTree tree, int node, int... kids) {
        due(when + ": about(" + node + ", 2)", tree.about(node, 2), kids.length);
        for (int k = 0; k < kids.length; k++) {
            due(when + ": kid(" + node + ", " + k + ")", tree.kid(node, k), kids[k]);
        }
        due(when + ": kid(" + node + ", " + kids.length + ")", tree.kid(node, kids.length), -1);
    }

    /** The values of a page for keys 0 to 3. */
    void values(String when, PageTree tree, int page, int... values) {
        for (int key = 0; key < values.length; key++) {
            due(when + ": of(" + page + ", " + key + ")", tree.of(page, key), values[key]);
        }
    }

    /** What the latest mend() told: pairs of a kind and an item, and no more. */
    void told(String when, PageTree tree, int... pairs) {
        int count = pairs.length / 2;
        for (int i = 0; i < count; i++) {
            due(when + ": told(" + i + ", 0)", tree.told(i, 0), pairs[2 * i]);
            due(when + ": told(" + i + ", 1)", tree.told(i, 1), pairs[2 * i + 1]);
        }
        due(when + ": told(" + count + ", 0)", tree.told(count, 0), -1);
        due(when + ": told(" + count + ", 1)", tree.told(count, 1), -1);
    }

    /** The label of a place, with no sign before or behind it. */
    void label(String when, PageTree tree, int place, String label) {
        due(when + ": text(" + place + ", -1)", tree.text(place, -1), -1);
        for (int k = 0; k < label.length(); k++) {
            due(when + ": text(" + place + ", " + k + ") of " + label, tree.text(place, k), label.charAt(k));
        }
        due(when + ": text(" + place + ", " + label.length() + ") of " + label,
            tree.text(place, label.length()), -1);
    }

    void end() {
        System.out.println(wrong == 0 ? "all answers are as due" : wrong + " answers are not as due");
        if (wrong != 0) {
            System.exit(1);
        }
    }

    /** A tree of a root with so many pages, 1 and up; 40 at most. */
    static PageTree flat(int pages) {
        PageTree tree = new PageTree();
        tree.node(-1, pages);
        for (int i = 0; i < pages; i++) {
            tree.page(0);
        }
        return tree;
    }

    /** A root (0) with nodes 1 to 5 and so many pages, from 6, 39 under a node before the next one. */
    static PageTree wide(int pages) {
        PageTree tree = new PageTree();
        tree.node(-1, 0);
        for (int i = 0; i < 5; i++) {
            tree.node(0, 0);
        }
        for (int i = 0; i < pages; i++) {
            tree.page(1 + i / 39);
        }
        return tree;
    }
}
