/** Promises 13 to 15: move, copy, remove. */
public final class MoveTest {
    private static final Check CHECK = new Check();

    public static void main(String[] args) {
        places();
        betweenNodes();
        ownPlace();
        valuesGoAlong();
        offAllLists();
        whereTheWalkTakesIt();
        alone();
        moveRefusals();
        moveIntoFullNode();
        copies();
        copyRefusals();
        removes();
        removeRefusals();
        CHECK.end();
    }

    private static void places() {
        for (int page = 1; page <= 4; page++) {
            for (int to = 0; to < 4; to++) {
                PageTree tree = Check.flat(4);
                int[] order = new int[4];
                int other = 1;
                for (int i = 0; i < 4; i++) {
                    other += other == page ? 1 : 0;
                    order[i] = i == to ? page : other++;
                }
                String when = "move(" + page + ", " + to + ")";
                CHECK.due(when, tree.move(page, to), to);
                CHECK.order(when, tree, order);
                CHECK.kids(when, tree, 0, order);
            }
        }
    }

    /** 0: [1, 2: [3, 4], 5: [6]]. */
    private static PageTree nested() {
        PageTree tree = new PageTree();
        tree.node(-1, 77);
        tree.page(0);
        tree.node(0, 88);
        tree.page(2);
        tree.page(2);
        tree.node(0, 99);
        tree.page(5);
        return tree;
    }

    private static void betweenNodes() {
        PageTree tree = nested();
        CHECK.due("before 4", tree.move(6, 2), 2);
        CHECK.kids("before 4", tree, 2, 3, 6, 4);
        CHECK.kids("before 4", tree, 5);
        CHECK.due("before 4", tree.about(6, 1), 2);
        CHECK.due("behind the last", tree.move(1, 3), 3);
        CHECK.kids("behind the last", tree, 2, 3, 6, 4, 1);
        CHECK.due("behind the last", tree.about(1, 1), 2);
        CHECK.kids("behind the last", tree, 0, 2, 5);
        CHECK.due("counts stay", tree.about(0, 3), 77);
        CHECK.due("counts stay", tree.about(2, 3), 88);
        CHECK.due("counts stay", tree.about(5, 3), 99);
        CHECK.due("no new item", tree.count(0), 7);
    }

    private static void ownPlace() {
        PageTree tree = nested();
        tree.inherit(2, 0, 4);
        CHECK.due("to its own place", tree.move(4, 2), 2);
        CHECK.order("to its own place", tree, 1, 3, 4, 6);
        CHECK.kids("before 6, in its list", tree, 5, 4, 6);
        CHECK.kids("before 6, in its list", tree, 2, 3);
        CHECK.due("its parent", tree.about(4, 1), 5);
        CHECK.values("as its own", tree, 4, 4, -1, -1, -1);
    }

    private static void valuesGoAlong() {
        PageTree tree = nested();
        tree.inherit(0, 0, 10);
        tree.inherit(2, 1, 20);
        tree.inherit(5, 1, 30);
        tree.inherit(5, 3, 31);
        tree.inherit(6, 2, 40);
        tree.move(6, 1);
        CHECK.values("moved", tree, 6, 10, 30, 40, 31);
        tree.inherit(0, 0, -1);
        tree.inherit(5, 3, -1);
        CHECK.values("its own", tree, 6, 10, 30, 40, 31);
        tree.move(1, 3);
        CHECK.values("what it has not, it may have from its new parent", tree, 1, -1, 20, -1, -1);
    }

    private static void offAllLists() {
        PageTree tree = nested();
        tree.list(0, 3);
        tree.list(2, 3);
        tree.list(5, 3);
        tree.list(2, 3);
        CHECK.due("moved", tree.move(3, 1), 1);
        CHECK.kids("moved", tree, 0, 1, 2, 5);
        CHECK.kids("moved", tree, 2, 3, 4);
        CHECK.kids("moved", tree, 5, 6);
        tree.list(0, 6);
        tree.node(0, 0);
        CHECK.due("no list behind is left", tree.move(6, 0), 0);
        CHECK.kids("moved", tree, 0, 6, 1, 2, 5, 7);
        CHECK.kids("moved", tree, 5);
    }

    private static void whereTheWalkTakesIt() {
        PageTree tree = nested();
        tree.list(2, 1);
        tree.list(5, 4);
        CHECK.due("before 4", tree.move(6, 2), 2);
        CHECK.kids("where 4 is taken", tree, 2, 3, 6, 4, 1);
        CHECK.kids("not where it is listed again", tree, 5, 4);
        CHECK.due("behind the last", tree.move(3, 3), 3);
        CHECK.kids("where 4 is taken", tree, 2, 6, 4, 3, 1);
        CHECK.order("the order", tree, 1, 6, 4, 3);
        CHECK.due("the slots behind have come nearer", tree.move(6, 3), 3);
        CHECK.kids("the slots behind have come nearer", tree, 2, 4, 3, 6, 1);
    }

    private static void alone() {
        PageTree tree = Check.flat(1);
        tree.inherit(0, 0, 5);
        tree.list(0, 1);
        CHECK.due("alone", tree.move(1, 0), 0);
        CHECK.kids("nothing is done", tree, 0, 1, 1);
        tree.inherit(0, 0, -1);
        CHECK.values("nothing is done", tree, 1, -1, -1, -1, -1);
        CHECK.due("alone, no such place", tree.move(1, 1), -2);
        CHECK.due("alone, no such place", tree.move(1, -1), -2);
    }

    private static void moveRefusals() {
        PageTree tree = nested();
        CHECK.due("a node", tree.move(0, 0), -1);
        CHECK.due("a node", tree.move(2, 0), -1);
        CHECK.due("unknown", tree.move(7, 0), -1);
        CHECK.due("unknown, no place", tree.move(-1, -1), -1);
        CHECK.due("no place", tree.move(1, 4), -2);
        CHECK.due("no place", tree.move(1, -1), -2);
        CHECK.due("no place", tree.move(1, Integer.MAX_VALUE), -2);
        tree.remove(6);
        CHECK.due("not in the document", tree.move(6, 0), -1);
        CHECK.due("no place now", tree.move(1, 3), -2);
        CHECK.order("nothing was done", tree, 1, 3, 4);
    }

    private static void moveIntoFullNode() {
        PageTree tree = new PageTree();
        tree.node(-1, 0);
        tree.node(0, 0);
        tree.node(0, 0);
        for (int i = 0; i < 40; i++) {
            tree.page(1);
        }
        tree.page(2);
        tree.inherit(2, 0, 6);
        CHECK.due("full", tree.move(43, 39), -4);
        CHECK.due("full", tree.move(43, 0), -4);
        CHECK.due("no place before full", tree.move(43, 41), -2);
        CHECK.due("its parent", tree.about(43, 1), 2);
        tree.inherit(2, 0, -1);
        CHECK.values("nothing was done", tree, 43, -1, -1, -1, -1);
        CHECK.due("without it there is room", tree.move(42, 0), 0);
        CHECK.due("without it there is room", tree.about(1, 2), 40);
        CHECK.due("behind the last one", tree.move(3, 40), 40);
        CHECK.kids("behind the last one", tree, 2, 43, 3);
        CHECK.due("39 now", tree.move(43, 5), 5);
        CHECK.due("40 again", tree.about(1, 2), 40);
        tree.list(2, 4);
        CHECK.due("full, and listed elsewhere too", tree.move(4, 7), 7);
        CHECK.due("40 still", tree.about(1, 2), 40);
        CHECK.kids("off the other list", tree, 2, 3);
    }

    private static void copies() {
        PageTree tree = nested();
        tree.inherit(0, 0, 10);
        tree.inherit(2, 1, 20);
        tree.inherit(3, 2, 30);
        CHECK.due("copy(3)", tree.copy(3), 7);
        CHECK.kids("right behind", tree, 2, 3, 7, 4);
        CHECK.order("right behind", tree, 1, 3, 7, 4, 6);
        CHECK.due("a page", tree.about(7, 0), 1);
        CHECK.due("its parent", tree.about(7, 1), 2);
        CHECK.values("its values", tree, 7, 10, 20, 30, -1);
        tree.inherit(0, 0, -1);
        tree.inherit(2, 1, -1);
        CHECK.values("as its own", tree, 7, 10, 20, 30, -1);
        CHECK.values("the page has not", tree, 3, -1, -1, 30, -1);
        CHECK.due("counts stay", tree.about(2, 3), 88);
        tree.list(0, 3);
        tree.list(5, 6);
        CHECK.due("copy(6)", tree.copy(6), 8);
        CHECK.kids("where it is taken", tree, 5, 6, 8, 6);
        PageTree other = nested();
        other.inherit(2, 0, 1);
        other.inherit(5, 0, 2);
        other.list(2, 6);
        CHECK.due("copy(6)", other.copy(6), 7);
        CHECK.kids("where it is taken", other, 2, 3, 4, 6, 7);
        CHECK.due("the list's node", other.about(7, 1), 2);
        CHECK.values("the values are from the page's parent", other, 7, 2, -1, -1, -1);
    }

    private static void copyRefusals() {
        PageTree tree = Check.flat(39);
        CHECK.due("a node", tree.copy(0), -1);
        CHECK.due("unknown", tree.copy(40), -1);
        CHECK.due("unknown", tree.copy(-1), -1);
        CHECK.due("the fortieth", tree.copy(39), 40);
        CHECK.due("40 kids", tree.copy(1), -4);
        tree.remove(40);
        CHECK.due("not in the document", tree.copy(40), -1);
        PageTree full = Check.wide(194);
        CHECK.due("full", full.count(0), 200);
        CHECK.due("200 items", full.copy(199), -4);
        CHECK.due("a node, 200 items", full.copy(5), -1);
        CHECK.due("unknown, 200 items", full.copy(200), -1);
        CHECK.due("nothing was done", full.about(5, 2), 38);
    }

    private static void removes() {
        PageTree tree = nested();
        tree.list(0, 3);
        tree.list(2, 3);
        tree.inherit(2, 0, 1);
        tree.inherit(3, 1, 2);
        tree.name(5, 3);
        tree.name(6, 4);
        tree.name(7, 3);
        CHECK.due("two names", tree.remove(3), 2);
        CHECK.order("off", tree, 1, 4, 6);
        CHECK.kids("off all lists", tree, 0, 1, 2, 5);
        CHECK.kids("off all lists", tree, 2, 4);
        CHECK.due("no parent", tree.about(3, 1), -1);
        CHECK.values("its own alone", tree, 3, -1, 2, -1, -1);
        CHECK.due("look(5)", tree.look(5), -1);
        CHECK.due("look(6)", tree.look(6), 4);
        CHECK.due("look(7)", tree.look(7), -1);
        CHECK.due("names", tree.count(2), 1);
        CHECK.due("items stay", tree.count(0), 7);
        CHECK.due("counts stay", tree.about(2, 3), 88);
        CHECK.due("no names", tree.remove(1), 0);
        CHECK.due("again", tree.remove(3), -1);
    }

    private static void removeRefusals() {
        PageTree tree = Check.flat(2);
        CHECK.due("a node", tree.remove(0), -1);
        CHECK.due("unknown", tree.remove(3), -1);
        CHECK.due("unknown", tree.remove(Integer.MIN_VALUE), -1);
        tree.remove(1);
        tree.name(1, 2);
        CHECK.due("not there, one left", tree.remove(1), -1);
        CHECK.due("the only one", tree.remove(2), -3);
        CHECK.order("nothing was done", tree, 2);
        CHECK.due("nothing was done", tree.look(1), 2);
        CHECK.due("nothing was done", tree.about(2, 1), 0);
    }
}
