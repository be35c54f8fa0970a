/** Promises 1 to 4, 9, 10 and 21: a new object, node, page, list, about, kid, count. */
public final class BuildTest {
    private static final Check CHECK = new Check();

    public static void main(String[] args) {
        newObject();
        firstNode();
        kidsAreAppended();
        noSuchNode();
        fortyKids();
        twoHundredItems();
        listing();
        aboutItems();
        objectsAreApart();
        CHECK.end();
    }

    private static void newObject() {
        PageTree tree = new PageTree();
        CHECK.due("new: count(0)", tree.count(0), 0);
        CHECK.due("new: count(1)", tree.count(1), 0);
        CHECK.due("new: count(2)", tree.count(2), 0);
        CHECK.due("new: count(3)", tree.count(3), -2);
        CHECK.due("new: count(-1)", tree.count(-1), -2);
        CHECK.due("new: pages()", tree.pages(), 0);
        CHECK.due("new: at(0)", tree.at(0), -1);
        CHECK.due("new: kid(0, 0)", tree.kid(0, 0), -1);
        CHECK.due("new: about(0, 0)", tree.about(0, 0), -1);
        CHECK.due("new: told(0, 0)", tree.told(0, 0), -1);
        CHECK.due("new: look(0)", tree.look(0), -1);
        CHECK.due("new: text(0, 0)", tree.text(0, 0), -1);
    }

    private static void firstNode() {
        PageTree tree = new PageTree();
        CHECK.due("no root: node(0, 1)", tree.node(0, 1), -1);
        CHECK.due("no root: node(-2, 1)", tree.node(-2, 1), -1);
        CHECK.due("no root: page(-1)", tree.page(-1), -1);
        CHECK.due("no root: page(0)", tree.page(0), -1);
        CHECK.due("no root: list(0, 0)", tree.list(0, 0), -1);
        CHECK.due("root: node(-1, min)", tree.node(-1, Integer.MIN_VALUE), 0);
        CHECK.due("root's count", tree.about(0, 3), Integer.MIN_VALUE);
        CHECK.due("second root", tree.node(-1, 1), -1);
        CHECK.due("items", tree.count(0), 1);
    }

    private static void kidsAreAppended() {
        PageTree tree = new PageTree();
        tree.node(-1, 0);
        CHECK.due("node", tree.node(0, Integer.MAX_VALUE), 1);
        CHECK.due("page", tree.page(0), 2);
        CHECK.due("node in node", tree.node(1, -5), 3);
        CHECK.due("page in node", tree.page(1), 4);
        CHECK.kids("built", tree, 0, 1, 2);
        CHECK.kids("built", tree, 1, 3, 4);
        CHECK.due("count of 1", tree.about(1, 3), Integer.MAX_VALUE);
        CHECK.due("count of 3", tree.about(3, 3), -5);
        CHECK.due("parent of 4", tree.about(4, 1), 1);
        CHECK.due("count(0)", tree.count(0), 5);
    }

    private static void noSuchNode() {
        PageTree tree = Check.flat(1);
        int[] wrong = {1, 2, -1, -2, 200, Integer.MAX_VALUE, Integer.MIN_VALUE};
        for (int node : wrong) {
            CHECK.due("node(" + node + ", 0)", tree.node(node, 0), -1);
            CHECK.due("page(" + node + ")", tree.page(node), -1);
            CHECK.due("list(" + node + ", 0)", tree.list(node, 0), -1);
            CHECK.due("kid(" + node + ", 0)", tree.kid(node, 0), -1);
        }
        int[] wrongItems = {2, -1, 200, Integer.MAX_VALUE, Integer.MIN_VALUE};
        for (int item : wrongItems) {
            CHECK.due("list(0, " + item + ")", tree.list(0, item), -1);
        }
        CHECK.due("kid(0, -1)", tree.kid(0, -1), -1);
        CHECK.due("kid(0, max)", tree.kid(0, Integer.MAX_VALUE), -1);
        CHECK.due("kid(0, 1)", tree.kid(0, 1), -1);
        CHECK.due("nothing was done", tree.count(0), 2);
        CHECK.kids("nothing was done", tree, 0, 1);
    }

    private static void fortyKids() {
        PageTree tree = Check.flat(39);
        CHECK.due("the fortieth", tree.page(0), 40);
        CHECK.due("page, full", tree.page(0), -4);
        CHECK.due("node, full", tree.node(0, 1), -4);
        CHECK.due("list, full", tree.list(0, 1), -4);
        CHECK.due("list, full and no such item", tree.list(0, 99), -1);
        CHECK.due("second root, full", tree.node(-1, 1), -1);
        CHECK.due("items", tree.count(0), 41);
        CHECK.due("kids", tree.about(0, 2), 40);
        CHECK.due("kid 39", tree.kid(0, 39), 40);
        CHECK.due("kid 40", tree.kid(0, 40), -1);
    }

    private static void twoHundredItems() {
        PageTree tree = Check.wide(193);
        CHECK.due("the last but one", tree.node(5, 3), 199);
        CHECK.due("page, full", tree.page(5), -4);
        CHECK.due("node, full", tree.node(5, 1), -4);
        CHECK.due("node, full, unknown", tree.node(200, 1), -1);
        CHECK.due("page, full, unknown", tree.page(-1), -1);
        CHECK.due("second root, full", tree.node(-1, 1), -1);
        CHECK.due("items", tree.count(0), 200);
        CHECK.due("about(200, 0)", tree.about(200, 0), -1);
        CHECK.due("list goes on", tree.list(199, 199), 1);
        CHECK.due("pages", tree.pages(), 193);
        CHECK.due("kid(200, 0)", tree.kid(200, 0), -1);
        CHECK.due("of(200, 0)", tree.of(200, 0), -1);
        CHECK.due("inherit(200, 0, 0)", tree.inherit(200, 0, 0), -1);
        CHECK.due("list(200, 0)", tree.list(200, 0), -1);
        CHECK.due("list(199, 200)", tree.list(199, 200), -1);
        CHECK.due("move(200, 0)", tree.move(200, 0), -1);
        CHECK.due("remove(200)", tree.remove(200), -1);
        CHECK.due("name(0, 200)", tree.name(0, 200), -1);
    }

    private static void listing() {
        PageTree tree = Check.flat(2);
        tree.node(0, 0);
        CHECK.due("list(3, 1)", tree.list(3, 1), 1);
        CHECK.due("list(3, 1) again", tree.list(3, 1), 2);
        CHECK.due("list(3, 0)", tree.list(3, 0), 3);
        CHECK.due("list(3, 3)", tree.list(3, 3), 4);
        CHECK.kids("listed", tree, 3, 1, 1, 0, 3);
        CHECK.due("parent stays", tree.about(1, 1), 0);
        CHECK.due("the root has none", tree.about(0, 1), -1);
        CHECK.due("no new item", tree.count(0), 4);
    }

    private static void aboutItems() {
        PageTree tree = Check.flat(1);
        tree.node(0, 9);
        tree.page(2);
        int[][] due = {{0, -1, 2, 1, -1}, {1, 0, 0, 0, 0}, {0, 0, 1, 9, -1}, {1, 2, 0, 0, 1}};
        for (int item = 0; item < due.length; item++) {
            for (int what = 0; what < 5; what++) {
                CHECK.due("about(" + item + ", " + what + ")", tree.about(item, what), due[item][what]);
            }
            CHECK.due("about(" + item + ", 5)", tree.about(item, 5), -2);
            CHECK.due("about(" + item + ", -1)", tree.about(item, -1), -2);
        }
        CHECK.due("about(4, 0)", tree.about(4, 0), -1);
        CHECK.due("about(4, 9)", tree.about(4, 9), -1);
        CHECK.due("about(-1, 1)", tree.about(-1, 1), -1);
    }

    private static void objectsAreApart() {
        PageTree one = Check.flat(3);
        PageTree other = Check.flat(1);
        one.remove(1);
        CHECK.order("one", one, 2, 3);
        CHECK.order("other", other, 1);
    }
}
