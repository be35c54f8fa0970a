/** The edges of promises 11 and 12: mend, told. */
public final class MendEdgeTest {
    private static final Edges EDGES = new Edges();

    public static void main(String[] args) {
        nothingToTell();
        nodesMetAlready();
        pagesMetAlready();
        twoHundredItems();
        fortyKids();
        otherKids();
        counts();
        hundredTold();
        toldEdges();
        latest();
        EDGES.end();
    }

    private static void nothingToTell() {
        EDGES.run("11: 0 when there is no root", "mend()=0 told()= count(0)=0 label(0, 0, 1) mend()=0 told()=");
        EDGES.run("11: a root alone", "node(-1, 0) mend()=0 told()=");
        EDGES.run("11: a right tree", "node(-1, 3) page(0) node(0, 2) page(2) page(2) mend()=0 told()=",
            "order()=1,3,4",
            "kids(0)=1,2 kids(2)=3,4 about(3, 1)=2");
    }

    private static void nodesMetAlready() {
        EDGES.run("11: told 1, the root in its own list", "node(-1, 0) list(0, 0) mend()=1 told()=1:0",
            "kids(0)= about(0, 1)=-1");
        EDGES.run("11: told 1, a node in its own list", "node(-1, 0) node(0, 0) list(1, 1) mend()=1",
            "told()=1:1 kids(1)=");
        EDGES.run("11: told 1, the root below", "node(-1, 0) node(0, 0) node(1, 0) list(2, 0) mend()=1",
            "told()=1:0 kids(2)=",
            "about(0, 1)=-1");
        EDGES.run("11: told 1, between the root and the list", "node(-1, 0) node(0, 0) node(1, 0) list(2, 1)",
            "mend()=1",
            "told()=1:1 kids(2)= about(1, 1)=0");
        EDGES.run("11: told 2, twice in one list", "node(-1, 0) node(0, 0) list(0, 1) mend()=1 told()=2:1",
            "kids(0)=1");
        EDGES.run("11: told 2, in the list beside", "node(-1, 0) node(0, 0) node(0, 0) list(2, 1) mend()=1",
            "told()=2:1 kids(2)=",
            "about(1, 1)=0");
        EDGES.run("11: told 2, below one that was through", "node(-1, 0) node(0, 0) node(1, 0) list(0, 2)",
            "mend()=1",
            "told()=2:2 kids(0)=1 about(2, 1)=1");
        EDGES.run("11: told 2, by the list above, for a node within", "node(-1, 0) node(0, 0) node(1, 0)",
            "node(2, 0) list(1, 3)",
            "mend()=1 told()=2:3 kids(1)=2");
        EDGES.run("11: several off one list, one behind the other", "node(-1, 1) 3*list(0, 0) page(0)",
            "2*list(0, 0)",
            "mend()=5 told()=1:0,1:0,1:0,1:0,1:0 kids(0)=1");
        EDGES.run("11: at the end of 200 nodes", Edges.chain(200, 0), "list(199, 0) list(199, 199)",
            "list(199, 100) mend()=3",
            "told()=1:0,1:199,1:100 kids(199)=");
    }

    private static void pagesMetAlready() {
        EDGES.run("11: told 3, twice in one list", "node(-1, 2) page(0) list(0, 1) mend()=1 told()=3:1",
            "kids(0)=1,2",
            "about(2, 0)=1 about(2, 1)=0 about(2, 3)=0 count(0)=3");
        EDGES.run("11: told 3, in another list", "node(-1, 2) page(0) node(0, 1) list(2, 1) mend()=1",
            "told()=3:1 kids(2)=3",
            "about(3, 1)=2 about(1, 1)=0");
        EDGES.run("11: told 3, the page met already each time", "node(-1, 4) page(0) 3*list(0, 1) mend()=3",
            "told()=3:1,3:1,3:1 kids(0)=1,2,3,4 order()=1,2,3,4");
        EDGES.run("11: the copy has the same values of its own", "node(-1, 2) node(0, 1) page(1)",
            "inherit(0, 0, 5)",
            "inherit(1, 1, 6) inherit(2, 2, 0) inherit(2, 3, 100000) list(0, 2) mend()=1",
            "values(2)=5,6,0,100000",
            "values(3)=5,-1,0,100000 inherit(2, 2, 1) of(3, 2)=0");
        EDGES.run("11: names stay with the page", "node(-1, 2) page(0) list(0, 1) name(3, 1) mend()=1",
            "look(3)=1 count(2)=1");
    }

    private static void twoHundredItems() {
        EDGES.run("11: 199 items: a copy, the last", Edges.wide(194), "list(0, 5) count(0)=199 mend()",
            "told(4, 0)=3",
            "told(4, 1)=5 count(0)=200 pages()=195 kid(0, 38)=199 about(199, 1)=0 about(0, 3)=195");
        EDGES.run("11: told 5, 200 items: taken off", Edges.wide(195), "list(0, 5)=40 mend() told(4, 0)=5",
            "told(4, 1)=5",
            "told(5, 0)=4 told(5, 1)=0 count(0)=200 pages()=195 about(0, 2)=39 kid(0, 39)=-1 about(0, 3)=195");
        EDGES.run("11: the first has a copy, the next ones go", Edges.chain(198, 0), "page(197)=198",
            "3*list(0, 198)",
            "list(1, 198) mend() count(0)=200 about(1, 2)=2 kid(1, 1)=199 kids(0)=1 pages()=2 about(0, 3)=2");
        EDGES.run("11: what told 3 and 5", Edges.chain(198, 1), "page(197)=198 list(197, 198) list(197, 198)",
            "list(197, 198)",
            "mend() told(0, 0)=3 told(0, 1)=198 told(1, 0)=5 told(1, 1)=198 told(2, 0)=5 told(2, 1)=198",
            "told(3, 0)=4",
            "told(3, 1)=197 kids(197)=198,199");
        EDGES.run("11: nodes go at 200 items too", Edges.chain(200, 0), "list(0, 199) mend()=1 told()=2:199",
            "count(0)=200");
    }

    private static void fortyKids() {
        EDGES.run("11: copies in a full list", "node(-1, 40) page(0) 39*list(0, 1) mend()=39 told(38, 0)=3",
            "told(39, 0)=-1",
            "kids(0)=" + Edges.row(1, 40), "pages()=40");
        EDGES.run("11: a full list of nodes met already", "node(-1, 0) 40*list(0, 0) mend()=40 told(39, 0)=1",
            "told(40, 0)=-1",
            "kids(0)= page(0)=1");
        EDGES.run("11: a full list with one to go at its end", "node(-1, 39) 39*page(0) list(0, 0)=40",
            "mend()=1 told()=1:0",
            "about(0, 2)=39 kid(0, 38)=39 page(0)=40");
        EDGES.run("11: a full list of the last of 200 items", Edges.chain(200, 0), "40*list(199, 0) mend()=40",
            "kids(199)= list(199, 199)=1");
        EDGES.run("11: what comes behind one that went is nearer", "node(-1, 2) 2*list(0, 0) page(0) page(0)",
            "order()=1,2 mend()=2 kids(0)=1,2 copy(1)=3 kids(0)=1,3,2 move(2, 0)=0 kids(0)=2,1,3");
    }

    private static void otherKids() {
        EDGES.run("11: a page's parent is the node that lists it", "node(-1, 3) node(0, 1) node(0, 2) page(2)",
            "page(2)",
            "list(1, 3) about(3, 1)=2 mend()=1 told()=3:3 about(3, 1)=1 about(5, 1)=2 kids(2)=5,4");
        EDGES.run("11: a node's parent is the node that lists it", "node(-1, 0) node(0, 0) node(0, 0)",
            "node(2, 0) list(1, 3)",
            "about(3, 1)=2 mend()=1 told()=2:3 about(3, 1)=1 kids(1)=3 kids(2)=");
        EDGES.run("11: a removed page that is listed again", "node(-1, 2) page(0) page(0) remove(1)",
            "about(1, 1)=-1 list(0, 1)",
            "about(1, 1)=-1 mend()=0 about(1, 1)=0 kids(0)=2,1");
        EDGES.run("11: values come from the new parent", "node(-1, 1) node(0, 1) node(0, 0) page(2)",
            "inherit(1, 0, 1)",
            "inherit(2, 0, 2) list(1, 3) of(3, 0)=2 mend() of(3, 0)=1");
        EDGES.run("11: what the walk does not meet stays", "node(-1, 1) page(0) node(0, 9) balance()=0",
            "page(2)=3 list(2, 3)",
            "list(2, 2) mend()=0 kids(2)=3,3,2 about(2, 3)=9 about(2, 1)=-1");
    }

    private static void counts() {
        EDGES.run("11: a right count is not told", "node(-1, 1) page(0) mend()=0 node(0, 0) mend()=0");
        EDGES.run("11: one too small", "node(-1, 0) page(0) mend()=1 told()=4:0 about(0, 3)=1");
        EDGES.run("11: one too large", "node(-1, 2) page(0) mend()=1 told()=4:0 about(0, 3)=1");
        EDGES.run("11: a node without kids", "node(-1, -1) mend()=1 told()=4:0 about(0, 3)=0");
        EDGES.run("11: the least and the greatest", "node(-1, MIN) node(0, MAX) page(1) mend()=2",
            "told()=4:1,4:0 about(0, 3)=1",
            "about(1, 3)=1");
        EDGES.run("11: when all that is below is through", "node(-1, 9) node(0, 9) node(1, 9) node(0, 9)",
            "list(0, 0) mend()=5",
            "told()=4:2,4:1,4:3,1:0,4:0");
        EDGES.run("11: copies count, what went does not", "node(-1, 2) page(0) list(0, 1) node(0, 1)",
            "list(2, 1) list(2, 2)",
            "mend()=4 told()=3:1,3:1,1:2,4:0 about(0, 3)=3 about(2, 3)=1");
        EDGES.run("11: pages below nodes count for each above", "node(-1, 0) node(0, 0) node(1, 0) page(2)",
            "page(2) page(1)",
            "mend()=3 about(2, 3)=2 about(1, 3)=3 about(0, 3)=3");
        EDGES.run("11: 200 counts", Edges.chain(200, 1), "mend()=200 about(0, 3)=0 about(199, 3)=0",
            "told(0, 1)=199 told(99, 1)=100");
    }

    private static void hundredTold() {
        EDGES.run("12: 99 told", Edges.chain(99, 1), "mend()=99 told(98, 0)=4 told(98, 1)=0 told(99, 0)=-1",
            "told(99, 1)=-1");
        EDGES.run("12: 100 told", Edges.chain(100, 1), "mend()=100 told(99, 0)=4 told(99, 1)=0",
            "told(100, 0)=-1 told(100, 1)=-1");
        EDGES.run("12: 101 told: the first 100", Edges.chain(101, 1), "mend()=101 told(99, 0)=4 told(99, 1)=1",
            "told(100, 0)=-1 told(100, 1)=-1 told(101, 0)=-1");
        EDGES.run("12: put right also behind the first 100", "node(-1, 0)", "3*node(0, 0)", "40*list(1, 0)",
            "40*list(2, 0)",
            "40*list(3, 0) node(0, 8) list(0, 4) mend()=122 kids(1)= kids(2)= kids(3)= kids(0)=1,2,3,4",
            "about(4, 3)=0",
            "told(99, 0)=1 told(100, 0)=-1 mend()=0 told()=");
    }

    private static void toldEdges() {
        String three = "node(-1, 0) page(0) list(0, 1) list(0, 0) mend()=3 ";
        EDGES.run("12: -1 before any mend", "told(0, 0)=-1 told(0, 1)=-1 node(-1, 5) told(0, 0)=-1");
        EDGES.run("12: -1 none such", three, "told()=3:1,1:0,4:0 told(3, 0)=-1 told(3, 1)=-1 told(-1, 0)=-1",
            "told(-1, 1)=-1",
            "told(99, 0)=-1 told(100, 0)=-1 told(MAX, 0)=-1 told(MIN, 1)=-1");
        EDGES.run("12: -1 another what", three, "told(0, 2)=-1 told(0, -1)=-1 told(2, 2)=-1 told(0, MAX)=-1",
            "told(0, MIN)=-1",
            "told(3, 2)=-1");
    }

    private static void latest() {
        EDGES.run("12: of the latest mend()", "node(-1, 5) list(0, 0) mend()=2 told()=1:0,4:0 page(0)",
            "mend()=1 told()=4:0",
            "mend()=0 told()=");
        EDGES.run("12: fewer than the one before", Edges.chain(101, 1), "mend()=101 list(100, 100) mend()=1",
            "told()=1:100");
        EDGES.run("12: other calls tell nothing", "node(-1, 5) page(0) page(0) mend()=1 told()=4:0 page(0)",
            "remove(1) copy(2)",
            "move(2, 1) balance() list(0, 0) told()=4:0");
    }
}
