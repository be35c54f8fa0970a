/** The edges of promises 1 to 4, 9, 10 and 21: a new object, node, page, list, about, kid, count. */
public final class BuildEdgeTest {
    private static final Edges EDGES = new Edges();
    /** 0: [1: page, 2: [3: page], 4: page]. */
    private static final String SMALL = "node(-1, 7) page(0) node(0, 8) page(2) page(0) ";

    public static void main(String[] args) {
        newObject();
        node();
        nodeRoom();
        page();
        pageRoom();
        list();
        listRoom();
        about();
        kid();
        count();
        lastCall();
        EDGES.end();
    }

    private static void newObject() {
        EDGES.run("1: nothing is there", "count(0)=0 count(1)=0 count(2)=0 order()= told()= kid(0, 0)=-1",
            "about(0, 0)=-1 about(0, 4)=-1 of(0, 0)=-1 text(0, 0)=-1 look(0)=-1 look(9999)=-1 mend()=0",
            "told()=");
        EDGES.run("1: nothing to change", "page(0)!-1 list(0, 0)!-1 inherit(0, 0, 0)!-1 move(0, 0)!-1",
            "copy(0)!-1 remove(0)!-1 name(0, 0)!-1 balance()!-3");
        EDGES.run("1: ranges need no page", "label(0, 0, 1)=1 count(1)=1 count(0)=0");
    }

    private static void node() {
        EDGES.run("2: the first one: parent -1", "node(-1, 5)=0 about(0, 0)=0 about(0, 1)=-1 about(0, 3)=5");
        EDGES.run("2: -1 no root, and another parent", "node(0, 5)!-1 node(1, 5)!-1 node(-2, 5)!-1",
            "node(-3, 5)!-1",
            "node(199, 5)!-1 node(200, 5)!-1 node(MAX, 5)!-1 node(MIN, 5)!-1 node(-1, 6)=0");
        EDGES.run("2: -1 a root, and parent -1", "node(-1, 5)=0 node(-1, 5)!-1 node(-1, 6)!-1 node(0, 6)=1",
            "node(-1, 5)!-1 kids(0)=1");
        EDGES.run("2: -1 no such node", SMALL, "node(2, 0)=5 node(6, 0)!-1 node(-2, 0)!-1 node(200, 0)!-1",
            "node(MAX, 0)!-1 node(MIN, 0)!-1 node(5, 0)=6");
        EDGES.run("2: -1 a page is no node", SMALL, "node(1, 0)!-1 node(3, 0)!-1 node(4, 0)!-1");
        EDGES.run("2: the last kid", SMALL, "node(0, 0)=5 node(2, 0)=6 kids(0)=1,2,4,5 kids(2)=3,6");
        EDGES.run("2: a count is any int", "node(-1, MIN)=0 node(0, MAX)=1 node(0, -1)=2 node(0, 0)=3",
            "about(0, 3)=MIN about(1, 3)=MAX about(2, 3)=-1 about(3, 3)=0");
    }

    private static void nodeRoom() {
        EDGES.run("2: -4 40 kids", "node(-1, 0) 39*node(0, 0) about(0, 2)=39 node(0, 1)=40 node(0, 1)!-4",
            "kids(0)=" + Edges.row(1, 40), "node(40, 1)=41 node(0, 1)!-4");
        EDGES.run("2: -4 40 kids, the same one listed", "node(-1, 0) 39*list(0, 0) node(0, 1)=1 node(0, 1)!-4",
            "node(1, 1)=2");
        EDGES.run("2: -4 40 kids of a node below", "node(-1, 0) node(0, 0) 39*page(1) node(1, 5)=41",
            "node(1, 5)!-4",
            "node(0, 5)=42");
        EDGES.run("2: -4 200 items", Edges.chain(199, 0), "count(0)=199 node(198, 3)=199 node(199, 3)!-4",
            "node(198, 3)!-4 node(0, 3)!-4 count(0)=200");
        EDGES.run("2: -1 before -4 at 200 items", Edges.chain(199, 0), "page(0)=199 node(200, 0)!-1",
            "node(199, 0)!-1",
            "node(-1, 0)!-1 node(-2, 0)!-1 node(198, 0)!-4");
        EDGES.run("2: -1 before -4 at 40 kids", "node(-1, 0) 40*page(0) node(-1, 0)!-1 node(40, 0)!-1",
            "node(41, 0)!-1 node(0, 0)!-4");
        EDGES.run("2: -4 200 items and 40 kids", Edges.wide(195), "about(1, 2)=40 node(1, 0)!-4 node(0, 0)!-4");
    }

    private static void page() {
        EDGES.run("3: -1 no root", "page(0)!-1 page(-1)!-1 page(MAX)!-1 page(MIN)!-1 node(-1, 0)=0 page(0)=1");
        EDGES.run("3: -1 no such node", SMALL, "page(-1)!-1 page(-2)!-1 page(5)!-1 page(200)!-1 page(MAX)!-1",
            "page(MIN)!-1 node(0, 0)=5 page(5)=6");
        EDGES.run("3: -1 a page is no node", SMALL, "page(1)!-1 page(3)!-1 page(4)!-1");
        EDGES.run("3: the last kid", SMALL, "page(0)=5 page(2)=6 kids(0)=1,2,4,5 kids(2)=3,6 about(6, 1)=2",
            "values(6)=-1,-1,-1,-1 about(6, 0)=1 about(6, 3)=0");
    }

    private static void pageRoom() {
        EDGES.run("3: -4 40 kids", "node(-1, 0) 39*page(0) about(0, 2)=39 page(0)=40 page(0)!-4",
            "kids(0)=" + Edges.row(1, 40), "pages()=40");
        EDGES.run("3: -4 40 kids, the same one listed", "node(-1, 0) page(0) 38*list(0, 1) page(0)=2",
            "page(0)!-4",
            "order()=1,2");
        EDGES.run("3: -4 40 kids of a node below", "node(-1, 0) node(0, 0) 39*page(1) page(1)=41 page(1)!-4",
            "page(0)=42");
        EDGES.run("3: -4 200 items", Edges.chain(199, 0), "page(198)=199 page(198)!-4 page(0)!-4 count(0)=200");
        EDGES.run("3: -1 before -4 at 200 items", Edges.chain(199, 0), "page(0)=199 page(199)!-1 page(200)!-1",
            "page(-1)!-1");
        EDGES.run("3: -1 before -4 at 40 kids", "node(-1, 0) 40*page(0) page(40)!-1 page(41)!-1 page(-1)!-1",
            "page(0)!-4");
        EDGES.run("3: -4 200 items and 40 kids", Edges.wide(195), "about(0, 2)=39 page(0)!-4 page(4)!-4");
        EDGES.run("3: a refused one takes no number", "node(-1, 0) node(0, 0) 40*page(1) page(1)!-4",
            "page(9)=-1 page(0)=42");
    }

    private static void list() {
        EDGES.run("4: -1 no root", "list(0, 0)!-1 list(-1, -1)!-1 list(-1, 0)!-1");
        EDGES.run("4: -1 no such node", SMALL, "list(-1, 1)!-1 list(5, 1)!-1 list(200, 1)!-1 list(MAX, 1)!-1",
            "list(MIN, 1)!-1 list(2, 1)=2");
        EDGES.run("4: -1 a page is no node", SMALL, "list(1, 3)!-1 list(3, 0)!-1 list(4, 4)!-1");
        EDGES.run("4: -1 no such item", SMALL, "list(0, 5)!-1 list(0, -1)!-1 list(0, 200)!-1 list(0, MAX)!-1",
            "list(0, MIN)!-1 list(0, 4)=4 list(0, 0)=5 kids(0)=1,2,4,4,0");
        EDGES.run("4: once more, by one node or several", SMALL, "list(2, 3)=2 list(2, 3)=3 list(0, 3)=4",
            "list(2, 2)=4",
            "list(2, 0)=5 kids(2)=3,3,3,2,0 kids(0)=1,2,4,3 count(0)=5");
        EDGES.run("4: the parent stays, whichever list it", SMALL, "list(2, 1) list(2, 0) list(0, 3)",
            "about(1, 1)=0",
            "about(0, 1)=-1 about(3, 1)=2");
        EDGES.run("4: a node without kids", "node(-1, 0) node(0, 0) list(1, 0)=1 kids(1)=0");
    }

    private static void listRoom() {
        EDGES.run("4: -4 40 kids", "node(-1, 0) page(0) 38*list(0, 1) list(0, 1)=40 list(0, 1)!-4",
            "list(0, 0)!-4",
            "kids(0)=" + Edges.same(40, 1));
        EDGES.run("4: -4 40 kids of a node below", "node(-1, 0) node(0, 0) 39*page(1) list(1, 0)=40",
            "list(1, 0)!-4",
            "list(0, 0)=2");
        EDGES.run("4: -1 before -4", "node(-1, 0) 40*page(0) list(0, 41)!-1 list(0, -1)!-1 list(40, 1)!-1",
            "list(0, 40)!-4");
        EDGES.run("4: 200 items are no reason", Edges.chain(200, 0), "list(199, 199)=1 list(0, 199)=2",
            "list(199, 0)=2",
            "list(199, 200)!-1 list(200, 199)!-1 count(0)=200");
    }

    private static void about() {
        for (int what = 0; what <= 4; what++) {
            EDGES.run("9: -1 no such item, what " + what, "about(0, " + what + ")=-1", SMALL,
                "about(5, " + what + ")=-1 about(-1, " + what + ")=-1 about(200, " + what + ")=-1",
                "about(MAX, " + what + ")=-1 about(MIN, " + what + ")=-1");
        }
        EDGES.run("9: whether it is a page, 0", SMALL, "about(0, 0)=0 about(1, 0)=1 about(2, 0)=0",
            "about(4, 0)=1");
        EDGES.run("9: its parent, 1; -1 for none", SMALL, "about(0, 1)=-1 about(1, 1)=0 about(3, 1)=2",
            "remove(3)=0",
            "about(3, 1)=-1");
        EDGES.run("9: how many kids, 2; 0 for a page", SMALL, "about(0, 2)=3 about(2, 2)=1 about(1, 2)=0",
            "node(2, 1)=5",
            "about(5, 2)=0 36*page(0) about(0, 2)=39 page(0) about(0, 2)=40");
        EDGES.run("9: its count, 3; 0 for a page", SMALL, "about(0, 3)=7 about(2, 3)=8 about(1, 3)=0",
            "about(4, 3)=0");
        EDGES.run("9: its place, 4; -1 for none", SMALL, "about(1, 4)=0 about(3, 4)=1 about(4, 4)=2",
            "about(0, 4)=-1",
            "about(2, 4)=-1 remove(1)=0 about(1, 4)=-1 about(4, 4)=1");
        EDGES.run("9: -2 for others", SMALL, "about(0, 5)=-2 about(4, 5)=-2 about(0, -1)=-2 about(1, MAX)=-2",
            "about(2, MIN)=-2");
        EDGES.run("9: -1 before -2", SMALL, "about(5, 5)=-1 about(-1, -1)=-1 about(MIN, MAX)=-1");
        EDGES.run("9: the last of 200 items", Edges.chain(199, 6), "page(198)=199 about(199, 0)=1",
            "about(199, 1)=198",
            "about(199, 4)=0 about(198, 2)=1 about(198, 3)=6 about(200, 0)=-1 about(200, 4)=-1");
    }

    private static void kid() {
        EDGES.run("10: -1 no such kid", SMALL, "kid(0, 0)=1 kid(0, 2)=4 kid(0, 3)=-1 kid(0, -1)=-1",
            "kid(0, 40)=-1",
            "kid(0, MAX)=-1 kid(0, MIN)=-1 kid(2, 0)=3 kid(2, 1)=-1");
        EDGES.run("10: -1 a node without kids", "node(-1, 0) kid(0, 0)=-1 page(0) kid(0, 0)=1");
        EDGES.run("10: -1 no such node", "kid(0, 0)=-1 kid(-1, 0)=-1", SMALL, "kid(5, 0)=-1 kid(-1, 0)=-1",
            "kid(-1, 39)=-1 kid(200, 0)=-1 kid(MAX, 0)=-1 kid(MIN, 0)=-1 kid(MAX, MAX)=-1 kid(MIN, MIN)=-1");
        EDGES.run("10: -1 a page has none", SMALL, "kid(1, 0)=-1 kid(3, 0)=-1 kid(4, 0)=-1");
        EDGES.run("10: the fortieth", "node(-1, 0) 40*page(0) kid(0, 38)=39 kid(0, 39)=40 kid(0, 40)=-1");
        EDGES.run("10: the next node's list is not this one's", "node(-1, 0) node(0, 0) page(1) kid(0, 40)=-1",
            "kid(0, 1)=-1",
            "kid(1, -40)=-1");
        EDGES.run("10: taken off, the last place is empty", SMALL, "remove(4)=0 kid(0, 1)=2 kid(0, 2)=-1");
    }

    private static void count() {
        EDGES.run("21: how many items, 0", "count(0)=0", SMALL, "count(0)=5 remove(1) count(0)=5 copy(3)=5",
            "count(0)=6");
        EDGES.run("21: the most items", Edges.chain(200, 0), "count(0)=200 node(0, 0)=-4 count(0)=200");
        EDGES.run("21: how many ranges, 1", "count(1)=0", Edges.each(0, 19, "label(%d, 0, 1) label(%d, 1, 2)"),
            "count(1)=20 label(20, 0, 1)=-4 count(1)=20");
        EDGES.run("21: how many names, 2", SMALL, "count(2)=0", Edges.each(0, 59, "name(%d, 1)"),
            "count(2)=60 name(60, 1)=-4 count(2)=60 remove(1)=60 count(2)=0");
        EDGES.run("21: -2 for others", "count(3)=-2 count(-1)=-2 count(4)=-2 count(MAX)=-2 count(MIN)=-2",
            SMALL,
            "count(3)=-2 count(-1)=-2");
    }

    private static void lastCall() {
        EDGES.run("an object is used for 512 calls", "node(-1, 0) page(0) page(0) 254*move(1, 1)",
            "254*move(1, 0)",
            "at(0)=1");
        EDGES.run("512 calls, the last one changes", Edges.wide(195), "310*move(5, 194) about(5, 4)=194",
            "balance()=-4");
    }
}
