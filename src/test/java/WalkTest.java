/** Promises 7 and 8, and the walk: pages, at. */
public final class WalkTest {
    private static final Check CHECK = new Check();

    public static void main(String[] args) {
        nested();
        rings();
        firstTimeCounts();
        outside();
        deepRing();
        CHECK.end();
    }

    private static void nested() {
        PageTree tree = new PageTree();
        tree.node(-1, 0);
        CHECK.order("root alone", tree);
        tree.node(0, 0);
        tree.page(0);
        tree.page(1);
        tree.node(1, 0);
        tree.page(4);
        tree.page(1);
        CHECK.order("a node's kids first", tree, 3, 5, 6, 2);
        CHECK.due("at(-1)", tree.at(-1), -1);
        CHECK.due("at(4)", tree.at(4), -1);
        CHECK.due("at(200)", tree.at(200), -1);
        CHECK.due("at(max)", tree.at(Integer.MAX_VALUE), -1);
        CHECK.due("at(min)", tree.at(Integer.MIN_VALUE), -1);
    }

    private static void rings() {
        PageTree tree = new PageTree();
        tree.node(-1, 0);
        tree.list(0, 0);
        tree.node(0, 0);
        tree.list(1, 0);
        tree.list(1, 1);
        tree.page(1);
        tree.list(0, 1);
        tree.page(0);
        CHECK.order("rings", tree, 2, 3);
    }

    private static void firstTimeCounts() {
        PageTree tree = new PageTree();
        tree.node(-1, 0);
        tree.node(0, 0);
        tree.node(0, 0);
        tree.page(2);
        tree.page(2);
        tree.list(1, 4);
        CHECK.order("taken where first met", tree, 4, 3);
        tree.list(1, 2);
        CHECK.order("a node where first met", tree, 4, 3);
        tree.page(1);
        CHECK.order("node 2 within node 1", tree, 4, 3, 5);
    }

    private static void outside() {
        PageTree tree = Check.flat(5);
        tree.node(0, 0);
        tree.balance();
        CHECK.due("a page under a node that is nowhere listed", tree.page(6), 9);
        CHECK.order("not in the document", tree, 1, 2, 3, 4, 5);
        CHECK.due("its place", tree.about(9, 4), -1);
        tree.list(0, 6);
        CHECK.order("in it now", tree, 1, 2, 3, 4, 5, 9);
    }

    private static void deepRing() {
        PageTree tree = new PageTree();
        tree.node(-1, 0);
        for (int i = 0; i < 197; i++) {
            tree.node(i, 0);
            tree.list(i, 0);
        }
        tree.page(197);
        tree.page(0);
        CHECK.due("the last item", tree.count(0), 200);
        CHECK.order("deep", tree, 198, 199);
    }
}
