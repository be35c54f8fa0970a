/** Promises 11 and 12: mend, told. */
public final class MendTest {
    private static final Check CHECK = new Check();

    public static void main(String[] args) {
        nothingToDo();
        ringsAndTwins();
        pagesMetAlready();
        noRoomForCopies();
        parents();
        counts();
        moreThanHundred();
        unreached();
        deep();
        CHECK.end();
    }

    private static void nothingToDo() {
        PageTree tree = new PageTree();
        CHECK.due("no root", tree.mend(), 0);
        CHECK.told("no root", tree);
        tree.node(-1, 0);
        CHECK.due("root alone", tree.mend(), 0);
        tree.page(0);
        CHECK.due("count lies", tree.mend(), 1);
        CHECK.told("count lies", tree, 4, 0);
        CHECK.due("another what", tree.told(0, 2), -1);
        CHECK.due("another what", tree.told(0, -1), -1);
        CHECK.due("before the first", tree.told(-1, 0), -1);
        tree.page(0);
        CHECK.told("told stays", tree, 4, 0);
        CHECK.due("again", tree.mend(), 1);
        CHECK.due("right now", tree.mend(), 0);
        CHECK.told("the latest told nothing", tree);
    }

    private static void ringsAndTwins() {
        PageTree tree = new PageTree();
        tree.node(-1, 1);
        tree.list(0, 0);
        tree.node(0, 1);
        tree.node(1, 1);
        tree.page(2);
        tree.list(2, 1);
        tree.list(2, 2);
        tree.list(2, 0);
        tree.list(1, 2);
        tree.list(0, 1);
        tree.list(0, 2);
        CHECK.due("told", tree.mend(), 7);
        CHECK.told("rings", tree, 1, 0, 1, 1, 1, 2, 1, 0, 2, 2, 2, 1, 2, 2);
        CHECK.kids("rings", tree, 0, 1);
        CHECK.kids("rings", tree, 1, 2);
        CHECK.kids("rings", tree, 2, 3);
        CHECK.due("items", tree.count(0), 4);
    }

    private static void pagesMetAlready() {
        PageTree tree = new PageTree();
        tree.node(-1, 0);
        tree.node(0, 0);
        tree.page(1);
        tree.inherit(0, 0, 5);
        tree.inherit(1, 1, 6);
        tree.inherit(2, 2, 7);
        tree.list(1, 2);
        tree.list(0, 2);
        tree.page(0);
        tree.name(1, 2);
        CHECK.due("told", tree.mend(), 4);
        CHECK.told("copies", tree, 3, 2, 4, 1, 3, 2, 4, 0);
        CHECK.kids("copies", tree, 0, 1, 5, 3);
        CHECK.kids("copies", tree, 1, 2, 4);
        CHECK.order("copies", tree, 2, 4, 5, 3);
        CHECK.values("the page", tree, 2, 5, 6, 7, -1);
        CHECK.values("copy under the same node", tree, 4, 5, 6, 7, -1);
        CHECK.values("copy under the root", tree, 5, 5, -1, 7, -1);
        CHECK.due("its parent", tree.about(5, 1), 0);
        CHECK.due("its parent", tree.about(4, 1), 1);
        CHECK.due("count of 0", tree.about(0, 3), 4);
        CHECK.due("count of 1", tree.about(1, 3), 2);
        CHECK.due("names", tree.count(2), 1);
        CHECK.due("the name", tree.look(1), 2);
        tree.inherit(2, 2, -1);
        CHECK.values("the copy's own is its own", tree, 5, 5, -1, 7, -1);
    }

    private static void noRoomForCopies() {
        PageTree tree = Check.wide(193);
        tree.list(5, 6);
        tree.list(5, 7);
        tree.list(0, 8);
        CHECK.due("items before", tree.count(0), 199);
        tree.mend();
        CHECK.due("items", tree.count(0), 200);
        CHECK.told("one copy, two off", tree,
            4, 1, 4, 2, 4, 3, 4, 4, 3, 6, 5, 7, 4, 5, 5, 8, 4, 0);
        CHECK.due("kids of 5", tree.about(5, 2), 38);
        CHECK.due("the copy", tree.kid(5, 37), 199);
        CHECK.due("kids of 0", tree.about(0, 2), 5);
        CHECK.due("count of 5", tree.about(5, 3), 38);
        CHECK.due("count of 0", tree.about(0, 3), 194);
    }

    private static void parents() {
        PageTree tree = new PageTree();
        tree.node(-1, 2);
        tree.node(0, 2);
        tree.node(0, 0);
        tree.page(2);
        tree.node(2, 1);
        tree.page(4);
        tree.list(1, 3);
        tree.list(1, 4);
        tree.inherit(1, 0, 1);
        tree.inherit(2, 0, 2);
        CHECK.values("told under 2", tree, 5, 2, -1, -1, -1);
        CHECK.due("told", tree.mend(), 4);
        CHECK.told("put elsewhere", tree, 3, 3, 2, 4, 4, 2, 4, 0);
        CHECK.due("page's parent", tree.about(3, 1), 1);
        CHECK.due("node's parent", tree.about(4, 1), 1);
        CHECK.values("from 1 now", tree, 3, 1, -1, -1, -1);
        CHECK.values("from 1 now", tree, 5, 1, -1, -1, -1);
        CHECK.kids("4 is off", tree, 2, 6);
        CHECK.due("the root has no parent", tree.about(0, 1), -1);
    }

    private static void counts() {
        PageTree tree = new PageTree();
        tree.node(-1, Integer.MIN_VALUE);
        tree.node(0, Integer.MAX_VALUE);
        tree.node(1, -1);
        tree.page(2);
        tree.page(1);
        tree.node(0, 0);
        CHECK.due("told", tree.mend(), 3);
        CHECK.told("inner first", tree, 4, 2, 4, 1, 4, 0);
        CHECK.due("of 0", tree.about(0, 3), 2);
        CHECK.due("of 1", tree.about(1, 3), 2);
        CHECK.due("of 2", tree.about(2, 3), 1);
        CHECK.due("of 5", tree.about(5, 3), 0);
    }

    private static void moreThanHundred() {
        PageTree tree = new PageTree();
        tree.node(-1, 0);
        tree.node(0, 0);
        tree.node(0, 0);
        tree.node(0, 0);
        for (int i = 0; i < 35; i++) {
            tree.list(1, 0);
            tree.list(2, 1);
            tree.list(3, 3);
        }
        CHECK.due("all told", tree.mend(), 105);
        CHECK.due("34, 0", tree.told(34, 0), 1);
        CHECK.due("35, 0", tree.told(35, 0), 2);
        CHECK.due("99, 0", tree.told(99, 0), 1);
        CHECK.due("99, 1", tree.told(99, 1), 3);
        CHECK.due("100, 0", tree.told(100, 0), -1);
        CHECK.due("100, 1", tree.told(100, 1), -1);
        CHECK.due("max", tree.told(Integer.MAX_VALUE, 1), -1);
        CHECK.due("again", tree.mend(), 0);
        CHECK.told("again", tree);
    }

    private static void unreached() {
        PageTree tree = Check.flat(2);
        tree.node(0, 9);
        tree.balance();
        tree.page(3);
        tree.list(3, 4);
        tree.list(3, 1);
        tree.list(3, 3);
        CHECK.due("what the walk does not meet", tree.mend(), 0);
        CHECK.kids("stays", tree, 3, 4, 4, 1, 3);
        CHECK.due("stays", tree.about(3, 3), 9);
        CHECK.due("stays", tree.about(1, 1), 0);
        CHECK.due("stays", tree.about(4, 1), 3);
    }

    private static void deep() {
        PageTree tree = new PageTree();
        tree.node(-1, 0);
        for (int i = 0; i < 198; i++) {
            tree.node(i, 0);
        }
        tree.page(198);
        tree.list(198, 0);
        CHECK.due("told", tree.mend(), 200);
        CHECK.due("the ring", tree.told(0, 1), 0);
        CHECK.due("the innermost", tree.told(1, 1), 198);
        CHECK.due("count of the root", tree.about(0, 3), 1);
    }
}
