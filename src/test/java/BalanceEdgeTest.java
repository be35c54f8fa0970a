/** The edges of promise 20: balance. */
public final class BalanceEdgeTest {
    private static final Edges EDGES = new Edges();

    public static void main(String[] args) {
        wrongState();
        upToFour();
        moreThanFour();
        room();
        roomWithoutNewNodes();
        oldNodes();
        pagesOutside();
        values();
        counts();
        EDGES.end();
    }

    private static void wrongState() {
        EDGES.run("20: -3 no root", "balance()!-3 label(0, 0, 1) balance()!-3 count(0)=0");
        EDGES.run("20: -3 no page", "node(-1, 5) balance()!-3 node(0, 6) list(1, 0) list(0, 1)",
            "inherit(1, 0, 3) balance()!-3",
            "kids(0)=1,1 kids(1)=0 about(0, 3)=5");
        EDGES.run("20: -3 no page, 200 items", Edges.chain(200, 4), "balance()!-3 about(199, 1)=198");
        EDGES.run("20: one page in the document", "node(-1, 5) page(0) balance()=0 kids(0)=1 about(0, 3)=1",
            "balance()=0");
    }

    private static void upToFour() {
        for (int pages = 1; pages <= 4; pages++) {
            EDGES.run("20: " + pages + " stand under the root", "node(-1, 9) node(0, 8) " + pages + "*page(1)",
                "balance()=0",
                "kids(0)=" + Edges.row(2, pages + 1), "kids(1)= about(1, 1)=-1 about(0, 3)=" + pages,
                "about(1, 3)=8 about(2, 1)=0 count(0)=" + (pages + 2));
        }
        EDGES.run("20: four, one of them listed twice", "node(-1, 9) 4*page(0) list(0, 1) list(0, 0)",
            "balance()=0 kids(0)=1,2,3,4");
    }

    private static void moreThanFour() {
        EDGES.run("20: 5, one is left", "node(-1, 0) 5*page(0) balance()=2 kids(0)=6,7 kids(6)=1,2,3,4",
            "kids(7)=5 order()=1,2,3,4,5",
            "about(6, 1)=0 about(7, 1)=0 about(5, 1)=7 about(6, 3)=4 about(7, 3)=1 about(0, 3)=5 mend()=0");
        EDGES.run("20: 8, none is left", "node(-1, 0) 8*page(0) balance()=2 kids(0)=9,10 kids(9)=1,2,3,4",
            "kids(10)=5,6,7,8 mend()=0");
        EDGES.run("20: 9, a third node", "node(-1, 0) 9*page(0) balance()=3 kids(0)=10,11,12 kids(12)=9",
            "mend()=0");
        EDGES.run("20: 16, four nodes", "node(-1, 0) 16*page(0) balance()=4 kids(0)=17,18,19,20",
            "kids(20)=13,14,15,16 mend()=0");
        EDGES.run("20: 17, two levels", "node(-1, 0) 17*page(0) balance()=7 kids(0)=23,24",
            "kids(23)=18,19,20,21 kids(24)=22 kids(22)=17",
            "about(0, 3)=17 about(23, 3)=16 about(24, 3)=1 about(22, 3)=1 about(22, 1)=24 about(24, 1)=0",
            "mend()=0");
        EDGES.run("20: 64, two levels full", Edges.wide(64), "balance()=20 kids(0)=85,86,87,88",
            "kids(88)=81,82,83,84 kids(84)=65,66,67,68",
            "about(88, 3)=16 about(0, 3)=64 mend()=0");
        EDGES.run("20: 65, three levels", Edges.wide(65), "balance()=24 kids(0)=92,93 kids(92)=87,88,89,90",
            "kids(93)=91 kids(91)=86 kids(86)=69",
            "about(92, 3)=64 about(93, 3)=1 about(0, 3)=65 mend()=0");
        EDGES.run("20: again", "node(-1, 0) 5*page(0) balance()=2 balance()=2 kids(0)=8,9 kids(6)= kids(7)=",
            "about(6, 1)=-1 about(6, 3)=4");
    }

    private static void room() {
        // 144 pages need 36 and 9 and 3 new nodes, and stand with 4 old ones and the root.
        EDGES.run("20: 200 items", Edges.wide(144), "3*node(4, 0) count(0)=152 balance()=48 count(0)=200",
            "kids(0)=197,198,199",
            "pages()=144 about(0, 3)=144 mend()=0 balance()!-4");
        EDGES.run("20: -4 there would be 201 items", Edges.wide(144), "4*node(4, 0) list(4, 5)",
            "inherit(1, 0, 7) name(1, 5) count(0)=153",
            "balance()!-4 about(1, 2)=40 about(5, 1)=1 kids(0)=1,2,3,4");
        EDGES.run("20: 5 pages, 198 items", Edges.chain(193, 3), "5*page(192) count(0)=198 balance()=2",
            "kids(0)=198,199",
            "kids(198)=193,194,195,196 kids(199)=197 about(199, 3)=1 count(0)=200 balance()!-4");
        EDGES.run("20: -4 5 pages, 199 items", Edges.chain(194, 3), "5*page(193) count(0)=199",
            "inherit(0, 0, 1) balance()!-4",
            "about(198, 1)=193 about(193, 2)=5");
        EDGES.run("20: -4 the most pages", Edges.wide(195), "balance()!-4 pages()=195");
        EDGES.run("20: -4, then room behind removals", Edges.chain(194, 3), "5*page(193) balance()!-4",
            "remove(194)=0 balance()=0",
            "kids(0)=195,196,197,198 count(0)=199");
    }

    private static void roomWithoutNewNodes() {
        EDGES.run("20: 4 pages, 200 items", Edges.chain(196, 3), "4*page(195) count(0)=200 balance()=0",
            "kids(0)=196,197,198,199",
            "kids(195)= about(0, 3)=4 about(1, 3)=3 count(0)=200");
        EDGES.run("20: -4 5 pages, 200 items", Edges.chain(195, 3), "5*page(194) count(0)=200 balance()!-4");
    }

    private static void oldNodes() {
        EDGES.run("20: all nodes but the root go from all lists", "node(-1, 1) node(0, 2) node(1, 3) page(2)",
            "list(0, 2) list(2, 1)",
            "list(2, 0) list(0, 0) balance()=0 kids(0)=3 kids(1)= kids(2)= about(1, 1)=-1 about(2, 1)=-1",
            "about(0, 1)=-1");
        EDGES.run("20: nodes that the walk does not meet", "node(-1, 1) page(0) node(0, 2) balance()=0",
            "list(2, 1) list(2, 2) page(2)=3",
            "kids(2)=1,2,3 balance()=0 kids(2)= about(3, 1)=-1 kids(0)=1");
        EDGES.run("20: old nodes may be used again", "node(-1, 1) page(0) node(0, 2) balance()=0 list(0, 2)=2",
            "page(2)=3 order()=1,3");
    }

    private static void pagesOutside() {
        EDGES.run("20: pages that are not in the document have no parent", "node(-1, 1) page(0) node(0, 2)",
            "balance()=0 page(2)=3",
            "about(3, 1)=2 inherit(2, 0, 5) inherit(3, 1, 6) values(3)=5,6,-1,-1 balance()=0 about(3, 1)=-1",
            "values(3)=-1,6,-1,-1",
            "about(3, 4)=-1 order()=1");
        EDGES.run("20: removed ones stay out", "node(-1, 1) 5*page(0) remove(3)=0 balance()=0 kids(0)=1,2,4,5",
            "about(3, 1)=-1");
    }

    private static void values() {
        EDGES.run("20: their values for all keys as their own", "node(-1, 0) node(0, 0) page(1) page(0)",
            "inherit(0, 0, 0)",
            "inherit(1, 1, 100000) inherit(2, 2, 7) balance()=0 inherit(0, 0, -1) values(2)=0,100000,7,-1",
            "values(3)=0,-1,-1,-1");
        EDGES.run("20: the root's values stay, new nodes have none", "node(-1, 0) 5*page(0) inherit(0, 1, 4)",
            "balance()=2 page(6)=8",
            "of(8, 1)=4 of(8, 0)=-1 inherit(0, 1, -1) of(8, 1)=-1 of(2, 1)=4");
        EDGES.run("20: the parent counts, not the list", "node(-1, 0) node(0, 0) node(0, 0) page(2)",
            "list(1, 3) inherit(1, 0, 1)",
            "inherit(2, 0, 2) balance()=0 of(3, 0)=2");
    }

    private static void counts() {
        EDGES.run("20: the root's count and the new ones'", "node(-1, MIN) node(0, MAX) 6*page(1) balance()=2",
            "about(0, 3)=6",
            "about(8, 3)=4 about(9, 3)=2 about(1, 3)=MAX mend()=0");
        EDGES.run("20: names and ranges stay", "node(-1, 0) 6*page(0) name(4, 6) label(1, 1, 1) balance()=2",
            "look(4)=6 text(5)=v count(1)=1",
            "count(2)=1");
    }
}
