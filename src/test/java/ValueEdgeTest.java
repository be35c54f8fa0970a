/** The edges of promises 5 to 8, and of the walk: inherit, of, pages, at. */
public final class ValueEdgeTest {
    private static final Edges EDGES = new Edges();
    /** 0: [1: [2: page], 3: page, 4: no kids]. */
    private static final String SMALL = "node(-1, 0) node(0, 0) page(1) page(0) node(0, 0) ";

    public static void main(String[] args) {
        keysAndValues();
        noneOfItsOwn();
        unknownItems();
        refusalsInOrder();
        ofEdges();
        alongTheParents();
        pagesEdges();
        atEdges();
        walkEdges();
        EDGES.end();
    }

    private static void keysAndValues() {
        EDGES.run("5: key 0 .. 3", SMALL, "inherit(2, 0, 10)=1 inherit(2, 3, 13)=1 values(2)=10,-1,-1,13");
        EDGES.run("5: -2 key not 0 .. 3", SMALL, "inherit(2, -1, 10)!-2 inherit(2, 4, 10)!-2",
            "inherit(2, MAX, 10)!-2",
            "inherit(2, MIN, 10)!-2 inherit(4, 4, 10)!-2 inherit(0, -1, 10)!-2");
        EDGES.run("5: v 0 .. 100000", SMALL, "inherit(2, 0, 0)=1 inherit(2, 1, 1)=1 inherit(2, 2, 99999)=1",
            "inherit(2, 3, 100000)=1 values(2)=0,1,99999,100000");
        EDGES.run("5: -2 v not -1 .. 100000", SMALL, "inherit(2, 0, 7)=1 inherit(2, 0, -2)!-2",
            "inherit(2, 0, 100001)!-2",
            "inherit(2, 0, MAX)!-2 inherit(2, 0, MIN)!-2 inherit(4, 1, 100001)!-2 inherit(0, 1, -2)!-2",
            "values(2)=7,-1,-1,-1");
        EDGES.run("5: the same for the last item of one key and the next", SMALL, "inherit(2, 3, 5)=1",
            "inherit(3, 0, 6)=1",
            "values(2)=-1,-1,-1,5 values(3)=6,-1,-1,-1");
    }

    private static void noneOfItsOwn() {
        EDGES.run("5: -1 for v: none of its own", SMALL, "inherit(0, 0, 9)=1 inherit(2, 0, 8)=1 of(2, 0)=8",
            "inherit(2, 0, -1)=1 of(2, 0)=9 inherit(0, 0, -1)=1 of(2, 0)=-1");
        EDGES.run("5: -1 where there is none", SMALL, "inherit(2, 0, -1)=1 inherit(0, 3, -1)=1",
            "values(2)=-1,-1,-1,-1");
        EDGES.run("5: 0 is a value, not none", SMALL, "inherit(0, 0, 9) inherit(1, 0, 0)=1 of(2, 0)=0",
            "of(3, 0)=9",
            "inherit(2, 0, 7) of(2, 0)=7 inherit(2, 0, 0)=1 of(2, 0)=0 inherit(1, 0, 5) of(2, 0)=0");
        EDGES.run("5: from now on", SMALL, "inherit(2, 1, 5)=1 inherit(2, 1, 6)=1 of(2, 1)=6",
            "inherit(2, 1, 5)=1 of(2, 1)=5");
    }

    private static void unknownItems() {
        EDGES.run("5: -1 no such item", "inherit(0, 0, 1)!-1", SMALL, "inherit(5, 0, 1)!-1",
            "inherit(-1, 0, 1)!-1",
            "inherit(200, 0, 1)!-1 inherit(MAX, 0, 1)!-1 inherit(MIN, 0, 1)!-1 inherit(4, 0, 1)=1 page(4)=5",
            "of(5, 0)=1");
        EDGES.run("5: the last of 200 items", Edges.chain(199, 0), "page(198)=199 inherit(199, 3, 4)=1",
            "of(199, 3)=4",
            "inherit(200, 0, 1)!-1 inherit(200, 3, -1)!-1");
        EDGES.run("5: a page that is not in the document", SMALL, "remove(2)=0 inherit(2, 0, 4)=1 of(2, 0)=4");
        EDGES.run("5: a refused number is not prepared", SMALL, "inherit(5, 0, 1)!-1 page(0)=5 of(5, 0)=-1");
    }

    private static void refusalsInOrder() {
        EDGES.run("5: -1 before -2", SMALL, "inherit(5, 4, 1)!-1 inherit(-1, 0, -2)!-1",
            "inherit(5, -1, 100001)!-1",
            "inherit(4, 4, 100001)!-2");
        EDGES.run("6: -1 before -2", "of(0, 4)=-1", SMALL, "of(5, 4)=-1 of(-1, -1)=-1 of(0, 4)=-1",
            "of(1, -1)=-1 of(2, 4)=-2");
    }

    private static void ofEdges() {
        EDGES.run("6: -2 key not 0 .. 3", SMALL, "of(2, 0)=-1 of(2, 3)=-1 of(2, -1)=-2 of(2, 4)=-2",
            "of(2, MAX)=-2",
            "of(2, MIN)=-2 remove(2)=0 of(2, 4)=-2");
        EDGES.run("6: -1 no such page", SMALL, "inherit(0, 0, 6) of(5, 0)=-1 of(-1, 0)=-1 of(200, 0)=-1",
            "of(MAX, 0)=-1",
            "of(MIN, 0)=-1 of(3, 0)=6");
        EDGES.run("6: -1 a node is no page", SMALL, "inherit(0, 0, 6) inherit(1, 1, 7) of(0, 0)=-1",
            "of(1, 1)=-1 of(4, 0)=-1");
        EDGES.run("6: -1 when it has none", SMALL, "inherit(1, 0, 6) values(3)=-1,-1,-1,-1",
            "values(2)=6,-1,-1,-1");
    }

    private static void alongTheParents() {
        EDGES.run("6: from the root, 199 above", Edges.chain(199, 0), "page(198)=199 inherit(0, 2, 44)",
            "of(199, 2)=44",
            "inherit(100, 2, 45) of(199, 2)=45 inherit(198, 2, 0) of(199, 2)=0");
        EDGES.run("6: by parents, whichever list it", SMALL, "inherit(4, 0, 6) list(4, 2)=1 of(2, 0)=-1",
            "inherit(1, 0, 7)",
            "list(4, 3)=2 of(3, 0)=-1 of(2, 0)=7");
        EDGES.run("6: removed: its own alone", SMALL, "inherit(0, 0, 1) inherit(1, 1, 2) inherit(2, 2, 3)",
            "values(2)=1,2,3,-1",
            "remove(2)=0 values(2)=-1,-1,3,-1");
        EDGES.run("6: a page under a node that is nowhere listed", SMALL, "balance()=0 inherit(4, 1, 5)",
            "page(4)=5 of(5, 1)=5",
            "pages()=2");
    }

    private static void pagesEdges() {
        EDGES.run("7: no root", "pages()=0");
        EDGES.run("7: no page", "node(-1, 9) pages()=0 node(0, 9) pages()=0 list(1, 0) pages()=0");
        EDGES.run("7: one, also listed twice", "node(-1, 0) page(0) pages()=1 list(0, 1) pages()=1");
        EDGES.run("7: the most there can be", Edges.wide(195), "pages()=195 count(0)=200 about(199, 4)=194");
        EDGES.run("7: those that are not in the document", SMALL, "pages()=2 remove(2) pages()=1 count(0)=5");
    }

    private static void atEdges() {
        EDGES.run("8: -1 no root, no page", "at(0)=-1 node(-1, 0) at(0)=-1 at(-1)=-1");
        EDGES.run("8: -1 none such", SMALL, "at(-1)=-1 at(0)=2 at(1)=3 at(2)=-1 at(MAX)=-1 at(MIN)=-1",
            "at(199)=-1 at(200)=-1");
        EDGES.run("8: the last one of the most", Edges.wide(195), "at(0)=5 at(194)=199 at(195)=-1 at(199)=-1",
            "at(200)=-1");
        EDGES.run("8: one less behind a removal", SMALL, "at(1)=3 remove(2) at(0)=3 at(1)=-1");
    }

    private static void walkEdges() {
        EDGES.run("walk: the root in its own list", "node(-1, 0) list(0, 0) page(0) list(0, 0) order()=1");
        EDGES.run("walk: a node in its own list", "node(-1, 0) node(0, 0) list(1, 1) page(1) order()=2");
        EDGES.run("walk: a ring through the root", "node(-1, 0) node(0, 0) list(1, 0) page(1) page(0)",
            "order()=2,3");
        EDGES.run("walk: a ring beside the root", "node(-1, 0) node(0, 0) node(1, 0) list(2, 1) page(2)",
            "page(1) order()=3,4");
        EDGES.run("walk: a node twice in one list", "node(-1, 0) node(0, 0) list(0, 1) page(1) page(0)",
            "order()=2,3");
        EDGES.run("walk: a node's kids before the next one around it", "node(-1, 0) page(0) node(0, 0)",
            "page(0) page(2)",
            "node(2, 0) page(5) page(2) order()=1,4,6,7,3");
        EDGES.run("walk: a page where it is met first", SMALL, "list(1, 3) order()=2,3 page(0)=5",
            "order()=2,3,5");
        EDGES.run("walk: a node where it is met first", SMALL, "page(4)=5 order()=2,3,5 list(1, 4)",
            "order()=2,5,3");
        EDGES.run("walk: 40 kids, each the same", "node(-1, 0) page(0) 39*list(0, 1) order()=1");
        EDGES.run("walk: 200 items in a row of nodes", Edges.chain(199, 0), Edges.each(1, 198, "list(%d, 0)"),
            "page(198)=199 order()=199");
    }
}
