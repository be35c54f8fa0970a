/** Promises 5 and 6: inherit, of. */
public final class ValueTest {
    private static final Check CHECK = new Check();

    public static void main(String[] args) {
        alongTheParents();
        ranges();
        unknown();
        listersGiveNothing();
        deep();
        CHECK.end();
    }

    private static PageTree nested() {
        PageTree tree = new PageTree();
        tree.node(-1, 0);
        tree.node(0, 0);
        tree.page(1);
        tree.page(0);
        return tree;
    }

    private static void alongTheParents() {
        PageTree tree = nested();
        CHECK.values("none", tree, 2, -1, -1, -1, -1);
        CHECK.due("root's", tree.inherit(0, 0, 7), 1);
        CHECK.due("root's", tree.inherit(0, 1, 8), 1);
        CHECK.due("node's", tree.inherit(1, 1, 9), 1);
        CHECK.due("page's", tree.inherit(2, 2, 0), 1);
        CHECK.values("nearest", tree, 2, 7, 9, 0, -1);
        CHECK.values("the other page", tree, 3, 7, 8, -1, -1);
        CHECK.due("page's own", tree.inherit(2, 1, 10), 1);
        CHECK.values("own first", tree, 2, 7, 10, 0, -1);
        CHECK.due("none of its own", tree.inherit(2, 1, -1), 1);
        CHECK.due("none of its own", tree.inherit(1, 1, -1), 1);
        CHECK.values("from the root again", tree, 2, 7, 8, 0, -1);
        CHECK.due("nothing to take away", tree.inherit(3, 3, -1), 1);
    }

    private static void ranges() {
        PageTree tree = nested();
        CHECK.due("100000", tree.inherit(2, 3, 100000), 1);
        CHECK.due("100001", tree.inherit(2, 3, 100001), -2);
        CHECK.due("-2", tree.inherit(2, 3, -2), -2);
        CHECK.due("max", tree.inherit(2, 3, Integer.MAX_VALUE), -2);
        CHECK.due("key 4", tree.inherit(2, 4, 1), -2);
        CHECK.due("key -1", tree.inherit(2, -1, 1), -2);
        CHECK.values("refused", tree, 2, -1, -1, -1, 100000);
        CHECK.due("of, key 4", tree.of(2, 4), -2);
        CHECK.due("of, key -1", tree.of(2, -1), -2);
        CHECK.due("of, key min", tree.of(2, Integer.MIN_VALUE), -2);
    }

    private static void unknown() {
        PageTree tree = nested();
        tree.inherit(0, 0, 5);
        CHECK.due("of a node", tree.of(0, 0), -1);
        CHECK.due("of a node, wrong key", tree.of(1, 4), -1);
        CHECK.due("of none", tree.of(4, 0), -1);
        CHECK.due("of none, wrong key", tree.of(-1, 9), -1);
        CHECK.due("inherit, none", tree.inherit(4, 0, 1), -1);
        CHECK.due("inherit, none, wrong key", tree.inherit(-1, 9, 1), -1);
        CHECK.due("inherit, max", tree.inherit(Integer.MAX_VALUE, 0, 1), -1);
    }

    private static void listersGiveNothing() {
        PageTree tree = nested();
        tree.inherit(1, 0, 5);
        tree.list(1, 3);
        CHECK.values("listed, not told there", tree, 3, -1, -1, -1, -1);
        tree.remove(2);
        CHECK.values("removed: no parent", tree, 2, -1, -1, -1, -1);
        tree.inherit(2, 1, 6);
        CHECK.values("removed: its own", tree, 2, -1, 6, -1, -1);
        tree.list(1, 2);
        CHECK.due("listed again: no parent", tree.about(2, 1), -1);
        CHECK.values("listed again", tree, 2, -1, 6, -1, -1);
    }

    private static void deep() {
        PageTree tree = new PageTree();
        tree.node(-1, 0);
        for (int i = 0; i < 198; i++) {
            tree.node(i, 0);
        }
        CHECK.due("the page", tree.page(198), 199);
        tree.inherit(0, 2, 44);
        CHECK.values("from far above", tree, 199, -1, -1, 44, -1);
        CHECK.order("deep", tree, 199);
    }
}
