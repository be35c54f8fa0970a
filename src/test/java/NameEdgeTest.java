/** The edges of promises 18 and 19: name, look. */
public final class NameEdgeTest {
    private static final Edges EDGES = new Edges();
    /** 0: [1: page, 2: page, 3: no kids]. */
    private static final String SMALL = "node(-1, 0) page(0) page(0) node(0, 0) ";
    private static final String SIXTY = Edges.each(100, 159, "name(%d, 1)");

    public static void main(String[] args) {
        noSuchPage();
        noSuchName();
        leadsAlready();
        sixtyNames();
        refusalsInOrder();
        lookEdges();
        EDGES.end();
    }

    private static void noSuchPage() {
        EDGES.run("18: -1 no root, no page", "name(0, 0)!-1 node(-1, 0) name(0, 0)!-1 name(0, -1)!-1");
        EDGES.run("18: -1 no such page", SMALL, "name(0, 4)!-1 name(0, -1)!-1 name(0, 200)!-1 name(0, MAX)!-1",
            "name(0, MIN)!-1",
            "page(3)=4 name(0, 4)=1");
        EDGES.run("18: -1 a node is no page", SMALL, "name(0, 0)!-1 name(0, 3)!-1");
        EDGES.run("18: -1 not in the document", SMALL, "remove(1)=0 name(0, 1)!-1 name(0, 2)=1 list(3, 1)",
            "name(1, 1)=2");
        EDGES.run("18: -1 under a node that is nowhere listed", SMALL, "balance()=0 page(3)=4 name(0, 4)!-1");
        EDGES.run("18: the last of 200 items", Edges.chain(199, 0), "page(198)=199 name(5, 199)=1 look(5)=199",
            "name(6, 200)!-1");
    }

    private static void noSuchName() {
        EDGES.run("18: names 0 to 9999", SMALL, "name(0, 1)=1 name(9999, 2)=2 look(0)=1 look(9999)=2");
        EDGES.run("18: -2 no such name", SMALL, "name(-1, 1)!-2 name(10000, 1)!-2 name(MAX, 1)!-2",
            "name(MIN, 1)!-2 count(2)=0");
    }

    private static void leadsAlready() {
        EDGES.run("18: -3 it leads to one already", SMALL, "name(7, 1)=1 name(7, 2)!-3 name(7, 1)!-3",
            "look(7)=1 name(8, 1)=2");
        EDGES.run("18: -3 the least and the greatest", SMALL, "name(0, 1)=1 name(9999, 2)=2 name(0, 2)!-3",
            "name(9999, 1)!-3");
        EDGES.run("18: free again when its page is removed", SMALL, "name(7, 1)=1 remove(1)=1 look(7)=-1",
            "name(7, 2)=1 look(7)=2",
            "name(7, 2)!-3");
        EDGES.run("18: not free again when its page is moved, copied, mended, balanced", SMALL, "name(7, 1)=1",
            "move(1, 1) copy(1)",
            "list(3, 1) mend() balance() name(7, 2)!-3 look(7)=1");
    }

    private static void sixtyNames() {
        EDGES.run("18: -4 there are 60", SMALL, Edges.each(1, 59, "name(%d, 1)=%d"), "name(9999, 2)=60",
            "name(0, 1)!-4 name(60, 2)!-4",
            "count(2)=60");
        EDGES.run("18: room again", SMALL, Edges.each(1, 59, "name(%d, 1)"), "name(60, 2)=60 name(61, 1)!-4",
            "remove(2)=1 name(61, 1)=60",
            "name(62, 1)!-4");
        EDGES.run("18: each of 60 leads", SMALL, Edges.each(0, 29, "name(%d, 1)"), Edges.each(30, 59,
            "name(%d, 2)"),
            Edges.each(0, 29, "look(%d)=1"), Edges.each(30, 59, "look(%d)=2"), "look(60)=-1");
    }

    private static void refusalsInOrder() {
        EDGES.run("18: -1 before -2", SMALL, "name(-1, 4)!-1 name(10000, 0)!-1 name(10000, 1)!-2");
        EDGES.run("18: -1 before -3", SMALL, "name(7, 1) name(7, 4)!-1 name(7, 0)!-1 name(7, 2)!-3");
        EDGES.run("18: -1 before -4", SMALL, SIXTY, "name(7, 4)!-1 name(7, 3)!-1 name(7, 1)!-4");
        EDGES.run("18: -2 before -4", SMALL, SIXTY, "name(-1, 1)!-2 name(10000, 1)!-2 name(9999, 1)!-4");
        EDGES.run("18: -3 before -4", SMALL, SIXTY, "name(100, 2)!-3 name(159, 1)!-3 name(160, 1)!-4",
            "name(99, 1)!-4");
    }

    private static void lookEdges() {
        EDGES.run("19: -1 for none", "look(0)=-1 look(5)=-1", SMALL, "look(0)=-1 name(5, 2) look(5)=2",
            "look(4)=-1 look(6)=-1");
        EDGES.run("19: -1 no such name", SMALL, "name(0, 1) name(9999, 2) look(-1)=-1 look(10000)=-1",
            "look(MAX)=-1 look(MIN)=-1");
        EDGES.run("19: -1 behind a removal", SMALL, "name(5, 1) name(6, 2) remove(1)=1 look(5)=-1 look(6)=2");
    }
}
