/** Promise 20: balance. */
public final class BalanceTest {
    private static final Check CHECK = new Check();

    public static void main(String[] args) {
        refusals();
        upToFour();
        numbersOfNodes();
        levels();
        oldNodes();
        valuesAndParents();
        rootInItsOwnList();
        room();
        CHECK.end();
    }

    private static void refusals() {
        PageTree tree = new PageTree();
        CHECK.due("no root", tree.balance(), -3);
        tree.node(-1, 5);
        tree.node(0, 6);
        CHECK.due("no page", tree.balance(), -3);
        CHECK.kids("nothing was done", tree, 0, 1);
        CHECK.due("nothing was done", tree.about(0, 3), 5);
    }

    private static void upToFour() {
        PageTree tree = new PageTree();
        tree.node(-1, 9);
        tree.node(0, 8);
        for (int i = 0; i < 4; i++) {
            tree.page(1);
        }
        CHECK.due("four", tree.balance(), 0);
        CHECK.kids("four", tree, 0, 2, 3, 4, 5);
        CHECK.kids("four", tree, 1);
        CHECK.due("root's count", tree.about(0, 3), 4);
        CHECK.due("the old node's stays", tree.about(1, 3), 8);
        CHECK.due("no parent", tree.about(1, 1), -1);
        CHECK.due("parent", tree.about(5, 1), 0);
        CHECK.due("again", tree.balance(), 0);
        CHECK.due("mended", tree.mend(), 0);
    }

    private static void numbersOfNodes() {
        int[][] due = {{1, 0}, {4, 0}, {5, 2}, {8, 2}, {9, 3}, {16, 4}, {17, 7}, {20, 7}, {32, 10},
            {33, 12}, {40, 13}};
        for (int[] pair : due) {
            PageTree tree = Check.flat(pair[0]);
            CHECK.due(pair[0] + " pages", tree.balance(), pair[1]);
            CHECK.due(pair[0] + " pages, items", tree.count(0), 1 + pair[0] + pair[1]);
            CHECK.due(pair[0] + " pages stay", tree.pages(), pair[0]);
            CHECK.due(pair[0] + " pages, mended", tree.mend(), 0);
        }
    }

    private static void levels() {
        PageTree tree = Check.flat(18);
        tree.move(18, 0);
        CHECK.due("18 pages", tree.balance(), 7);
        CHECK.kids("root", tree, 0, 24, 25);
        CHECK.kids("upper", tree, 24, 19, 20, 21, 22);
        CHECK.kids("upper", tree, 25, 23);
        CHECK.kids("lower", tree, 19, 18, 1, 2, 3);
        CHECK.kids("the last ones", tree, 23, 16, 17);
        int[][] counts = {{0, 18}, {24, 16}, {25, 2}, {19, 4}, {23, 2}};
        for (int[] pair : counts) {
            CHECK.due("count of " + pair[0], tree.about(pair[0], 3), pair[1]);
            CHECK.due("a node", tree.about(pair[0], 0), 0);
        }
        CHECK.due("parent", tree.about(25, 1), 0);
        CHECK.due("parent", tree.about(23, 1), 25);
        CHECK.due("parent", tree.about(17, 1), 23);
        CHECK.due("parent", tree.about(18, 1), 19);
    }

    private static void oldNodes() {
        PageTree tree = Check.flat(5);
        tree.node(0, 11);
        tree.balance();
        tree.list(6, 1);
        tree.list(6, 6);
        tree.page(6);
        CHECK.due("again", tree.balance(), 2);
        CHECK.kids("no kids", tree, 6);
        CHECK.kids("no kids", tree, 7);
        CHECK.due("the old count stays", tree.about(7, 3), 4);
        CHECK.due("no parent", tree.about(7, 1), -1);
        CHECK.due("a page that is not in the document", tree.about(9, 1), -1);
        CHECK.order("the order", tree, 1, 2, 3, 4, 5);
        CHECK.kids("root", tree, 0, 10, 11);
    }

    private static void valuesAndParents() {
        PageTree tree = Check.flat(1);
        tree.node(0, 0);
        tree.page(2);
        tree.page(2);
        tree.inherit(0, 0, 5);
        tree.inherit(2, 1, 6);
        tree.inherit(3, 2, 7);
        tree.remove(4);
        tree.inherit(4, 3, 8);
        CHECK.due("balance", tree.balance(), 0);
        CHECK.values("as its own", tree, 1, 5, -1, -1, -1);
        CHECK.values("as its own", tree, 3, 5, 6, 7, -1);
        CHECK.values("not in the document", tree, 4, -1, -1, -1, 8);
        tree.inherit(0, 0, -1);
        tree.inherit(2, 1, -1);
        CHECK.values("as its own", tree, 3, 5, 6, 7, -1);
        tree.inherit(0, 3, 9);
        CHECK.values("the root's values stay", tree, 3, 5, 6, 7, 9);
    }

    private static void rootInItsOwnList() {
        PageTree tree = Check.flat(2);
        tree.list(0, 0);
        tree.list(0, 2);
        CHECK.due("balance", tree.balance(), 0);
        CHECK.kids("the pages alone", tree, 0, 1, 2);
        CHECK.due("the root has no parent", tree.about(0, 1), -1);
    }

    private static void room() {
        PageTree tree = Check.wide(144);
        // 144 pages: 36 and 9 and 3 new nodes.
        for (int i = 0; i < 2; i++) {
            tree.node(0, 0);
        }
        CHECK.due("items", tree.count(0), 152);
        PageTree over = Check.wide(144);
        for (int i = 0; i < 3; i++) {
            over.node(0, 0);
        }
        CHECK.due("201 items", over.balance(), -4);
        CHECK.due("nothing is done", over.about(0, 2), 8);
        CHECK.due("nothing is done", over.about(1, 2), 39);
        CHECK.due("nothing is done", over.about(6, 1), 1);
        CHECK.due("nothing is done", over.about(0, 3), 0);
        CHECK.due("200 items", tree.balance(), 48);
        CHECK.due("items", tree.count(0), 200);
        CHECK.kids("root", tree, 0, 197, 198, 199);
        CHECK.due("pages", tree.pages(), 144);
        CHECK.due("no room again", tree.balance(), -4);
    }
}
