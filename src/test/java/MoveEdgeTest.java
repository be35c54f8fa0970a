/** The edges of promises 13 to 15: move, copy, remove. */
public final class MoveEdgeTest {
    private static final Edges EDGES = new Edges();
    /** 0: [1: page, 2: [3: page, 4: page], 5: [6: page], 7: no kids]. */
    private static final String SMALL =
        "node(-1, 77) page(0) node(0, 88) page(2) page(2) node(0, 99) page(5) node(0, 66) ";
    /** 0: [1: [3 to 42: pages], 2: [43: page]]. */
    private static final String FULL_FIRST = "node(-1, 0) node(0, 0) node(0, 0) 40*page(1) page(2) ";
    /** 0: [1: [3: page], 2: [4 to 43: pages]]. */
    private static final String FULL_LAST = "node(-1, 0) node(0, 0) node(0, 0) page(1) 40*page(2) ";

    public static void main(String[] args) {
        movePlaces();
        moveAlone();
        moveUnknown();
        moveRoom();
        moveRoomWithoutIt();
        moveWhereTheWalkTakesIt();
        moveValues();
        copyEdges();
        copyRoom();
        removeEdges();
        removeNames();
        EDGES.end();
    }

    private static void movePlaces() {
        EDGES.run("13: places 0 to the number of pages less 1", SMALL, "move(6, 0)=0 order()=6,1,3,4",
            "move(6, 3)=3 order()=1,3,4,6");
        EDGES.run("13: -2 no such place", SMALL, "move(1, -1)!-2 move(1, 4)!-2 move(6, 4)!-2 move(1, 5)!-2",
            "move(1, 199)!-2",
            "move(1, 200)!-2 move(1, MAX)!-2 move(1, MIN)!-2 move(1, 3)=3");
        EDGES.run("13: -2 one place less behind a removal", SMALL, "move(1, 3)=3 remove(6)=0 move(1, 3)!-2",
            "move(1, 2)=2");
        EDGES.run("13: two pages", "node(-1, 0) page(0) page(0) move(1, 1)=1 order()=2,1 move(1, 0)=0",
            "order()=1,2 move(1, 0)=0",
            "order()=1,2 move(2, 1)=1 order()=1,2 move(2, 0)=0 order()=2,1 move(1, 2)!-2");
        EDGES.run("13: the last place: behind the last other one", SMALL, "move(1, 3)=3 kids(5)=6,1",
            "kids(0)=2,5,7 about(1, 1)=5");
        EDGES.run("13: the last page to the last place", SMALL, "move(6, 3)=3 kids(2)=3,4,6 kids(5)=",
            "about(6, 1)=2");
        EDGES.run("13: the last place but one: before the last other one", SMALL, "move(1, 2)=2 kids(5)=1,6",
            "order()=3,4,1,6");
        EDGES.run("13: the first page to the first place", SMALL, "move(1, 0)=0 kids(2)=1,3,4 kids(0)=2,5,7",
            "about(1, 1)=2");
        EDGES.run("13: the most pages", Edges.wide(195), "move(199, 0)=-4 move(5, 194)=194 at(193)=199",
            "at(194)=5",
            "about(5, 1)=0 kid(0, 39)=5 move(5, 195)!-2 move(199, 0)=0 at(0)=199 about(1, 2)=40");
    }

    private static void moveAlone() {
        EDGES.run("13: alone: nothing is done", "node(-1, 0) page(0) inherit(0, 0, 5) move(1, 0)!0 kids(0)=1",
            "inherit(0, 0, -1)",
            "of(1, 0)=-1");
        EDGES.run("13: alone, listed twice", "node(-1, 0) page(0) node(0, 0) list(2, 1) list(0, 1)",
            "move(1, 0)!0 kids(0)=1,2,1",
            "kids(2)=1");
        EDGES.run("13: alone, listed elsewhere first", "node(-1, 0) node(0, 0) page(0) list(1, 2)",
            "move(2, 0)!0 about(2, 1)=0",
            "kids(0)=1,2 kids(1)=2");
        EDGES.run("13: alone in the document", "node(-1, 0) page(0) page(0) remove(1)=0 move(2, 0)!0");
        EDGES.run("13: alone in a full list", "node(-1, 0) page(0) 39*list(0, 1) move(1, 0)!0 about(0, 2)=40");
        EDGES.run("13: alone, -2 no such place", "node(-1, 0) page(0) move(1, 1)!-2 move(1, -1)!-2",
            "move(1, MAX)!-2");
    }

    private static void moveUnknown() {
        EDGES.run("13: -1 no root, no page", "move(0, 0)!-1 node(-1, 0) move(0, 0)!-1 move(-1, 0)!-1");
        EDGES.run("13: -1 no such page", SMALL, "move(8, 0)!-1 move(-1, 0)!-1 move(200, 0)!-1 move(MAX, 0)!-1",
            "move(MIN, 0)!-1");
        EDGES.run("13: -1 a node is no page", SMALL, "move(0, 0)!-1 move(2, 0)!-1 move(7, 3)!-1");
        EDGES.run("13: -1 not in the document", SMALL, "remove(3)=0 move(3, 0)!-1 move(3, 2)!-1");
        EDGES.run("13: -1 under a node that is nowhere listed", SMALL, "balance()=0 page(7)=8 move(8, 0)!-1",
            "list(0, 8) move(8, 0)=0");
        EDGES.run("13: -1 before -2", SMALL, "move(8, -1)!-1 move(0, 4)!-1 move(-1, 4)!-1 remove(3)",
            "move(3, 3)!-1 move(1, 3)!-2");
        EDGES.run("13: -1 and -2 before -4", FULL_FIRST, "move(44, 0)!-1 move(1, 0)!-1 move(43, -1)!-2",
            "move(43, 41)!-2 move(43, 0)!-4");
    }

    private static void moveRoom() {
        EDGES.run("13: -4 the node has 40 kids", FULL_FIRST, "inherit(2, 0, 6) move(43, 0)!-4 move(43, 20)!-4",
            "move(43, 39)!-4",
            "kids(2)=43 about(43, 1)=2");
        EDGES.run("13: -4 behind the last other one", FULL_FIRST, "move(43, 40)!-4 about(43, 1)=2");
        EDGES.run("13: -4 at the last place", FULL_LAST, "move(3, 40)!-4 move(3, 39)!-4 move(3, 0)!-4",
            "kids(1)=3");
        EDGES.run("13: 39 kids: there is room for one", "node(-1, 0) node(0, 0) node(0, 0) 39*page(1)",
            "2*page(2)",
            "move(42, 0)=0 about(1, 2)=40 kid(1, 0)=42 move(43, 0)!-4 move(43, 39)!-4 move(43, 40)!-4",
            "move(42, 40)=40",
            "kids(2)=43,42 move(43, 38)=38 kids(2)=42 about(1, 2)=40");
        EDGES.run("13: kids of any kind", "node(-1, 0) node(0, 0) page(0) page(1) 39*list(1, 0) move(2, 0)!-4");
        EDGES.run("13: out of a full list", FULL_FIRST, "move(3, 40)=40 kids(2)=43,3 about(1, 2)=39",
            "move(43, 0)=0 about(1, 2)=40");
    }

    private static void moveRoomWithoutIt() {
        EDGES.run("13: 40 kids, it among them", FULL_FIRST, "move(3, 10)=10 about(1, 2)=40 at(0)=4 at(10)=3",
            "kid(1, 10)=3",
            "move(42, 0)=0 kid(1, 0)=42 kid(1, 39)=41 about(1, 2)=40");
        EDGES.run("13: 40 kids, it twice among them", "node(-1, 0) 39*page(0) list(0, 1)=40 move(1, 38)=38",
            "about(0, 2)=39",
            "kid(0, 0)=2 kid(0, 38)=1");
        EDGES.run("13: 40 kids, it listed there too", "node(-1, 0) node(0, 0) node(0, 0) page(2) 39*page(1)",
            "list(1, 3)=40",
            "about(3, 4)=39 move(3, 0)=0 about(1, 2)=40 kid(1, 0)=3 kids(2)= about(3, 1)=1");
        EDGES.run("13: full of others and itself elsewhere", FULL_FIRST, "list(2, 43) list(0, 43)",
            "move(43, 5)!-4 kids(2)=43,43");
    }

    private static void moveWhereTheWalkTakesIt() {
        EDGES.run("13: is taken off all lists", SMALL, "list(0, 3) list(2, 3) list(5, 3) list(7, 3)",
            "move(3, 0)=0 kids(0)=3,1,2,5,7",
            "kids(2)=4 kids(5)=6 kids(7)=");
        EDGES.run("13: also off lists that the walk does not meet", SMALL, "balance()=0 list(7, 1) list(7, 3)",
            "list(7, 1) move(1, 3)=3",
            "kids(7)=3 kids(0)=3,4,6,1");
        EDGES.run("13: before one that is listed again", SMALL, "list(5, 4) list(7, 4) move(1, 1)=1",
            "kids(2)=3,1,4 kids(5)=6,4");
        EDGES.run("13: behind one that is listed again", SMALL, "list(7, 6) list(5, 6) move(1, 3)=3",
            "kids(5)=6,1,6 kids(7)=6");
        EDGES.run("13: -4 by the list where the walk takes it", FULL_FIRST, "list(2, 3) move(43, 0)!-4",
            "kids(2)=43,3");
        EDGES.run("13: a full list where it is listed again", FULL_LAST, "list(1, 4) move(5, 1)=1",
            "kids(1)=3,5,4 move(3, 1)=1",
            "kids(1)=5,3,4");
        EDGES.run("13: the slots before have come nearer", "node(-1, 0) page(0) 2*list(0, 1) page(0) page(0)",
            "move(1, 1)=1 kids(0)=2,1,3");
        EDGES.run("13: counts stay", SMALL, "move(1, 2) move(6, 0) about(0, 3)=77 about(2, 3)=88",
            "about(5, 3)=99 count(0)=8");
        EDGES.run("13: names and ranges stay", SMALL, "name(4, 1) label(0, 1, 1) move(1, 3)=3 look(4)=1",
            "text(0)=i text(3)=iv");
    }

    private static void moveValues() {
        EDGES.run("13: its values for all keys as its own", SMALL, "inherit(0, 0, 0) inherit(5, 1, 100000)",
            "inherit(6, 2, 4)",
            "inherit(2, 0, 9) inherit(2, 3, 8) move(6, 1)=1 values(6)=0,100000,4,8 inherit(2, 3, -1)",
            "values(6)=0,100000,4,-1",
            "inherit(0, 0, -1) inherit(5, 1, -1) values(6)=0,100000,4,-1");
        EDGES.run("13: also at its own place", SMALL, "inherit(2, 0, 4) move(3, 1)=1 kids(2)=3,4",
            "inherit(2, 0, -1) of(3, 0)=4",
            "of(4, 0)=-1");
    }

    private static void copyEdges() {
        EDGES.run("14: -1 no root, no page", "copy(0)!-1 node(-1, 0) copy(0)!-1 copy(-1)!-1");
        EDGES.run("14: -1 no such page", SMALL, "copy(8)!-1 copy(-1)!-1 copy(200)!-1 copy(MAX)!-1",
            "copy(MIN)!-1 copy(6)=8 copy(8)=9");
        EDGES.run("14: -1 a node is no page", SMALL, "copy(0)!-1 copy(2)!-1 copy(7)!-1");
        EDGES.run("14: -1 not in the document", SMALL, "remove(3)=0 copy(3)!-1 balance()=0 page(7)=8",
            "copy(8)!-1");
        EDGES.run("14: right behind it, the first and the last kid", SMALL, "copy(1)=8 kids(0)=1,8,2,5,7",
            "copy(6)=9 kids(5)=6,9",
            "order()=1,8,3,4,6,9");
        EDGES.run("14: the only page", "node(-1, 0) page(0) copy(1)=2 kids(0)=1,2 about(2, 1)=0 about(2, 0)=1");
        EDGES.run("14: where the walk takes it", SMALL, "list(0, 6) list(2, 6) copy(6)=8 kids(2)=3,4,6,8",
            "kids(5)=6 about(8, 1)=2",
            "about(6, 1)=5");
        EDGES.run("14: listed twice in one list", "node(-1, 0) page(0) list(0, 1) copy(1)=2 kids(0)=1,2,1",
            "order()=1,2");
        EDGES.run("14: its values for all keys as its own", SMALL, "inherit(0, 0, 0) inherit(2, 1, 100000)",
            "inherit(3, 2, 4)",
            "copy(3)=8 inherit(0, 0, -1) inherit(2, 1, -1) values(8)=0,100000,4,-1 values(3)=-1,-1,4,-1");
        EDGES.run("14: names stay with the page, counts stay", SMALL, "name(1, 3) copy(3)=8 look(1)=3",
            "count(2)=1 about(2, 3)=88",
            "about(0, 3)=77 remove(8)=0");
    }

    private static void copyRoom() {
        EDGES.run("14: -4 40 kids", "node(-1, 0) 39*page(0) copy(1)=40 kid(0, 1)=40 copy(1)!-4 copy(39)!-4",
            "copy(40)!-4",
            "about(0, 2)=40");
        EDGES.run("14: -4 40 kids where the walk takes it", FULL_FIRST, "list(2, 3) copy(3)!-4 copy(43)=44",
            "kids(2)=43,44,3");
        EDGES.run("14: 40 kids where it is listed again", FULL_LAST, "list(1, 4) copy(4)=44 kids(1)=3,4,44",
            "about(2, 2)=40 copy(5)!-4");
        EDGES.run("14: -4 40 kids, the same one listed", "node(-1, 0) page(0) 38*list(0, 1) copy(1)=2",
            "about(0, 2)=40 copy(1)!-4");
        EDGES.run("14: -4 200 items", Edges.chain(198, 0), "page(197)=198 copy(198)=199 copy(198)!-4",
            "copy(199)!-4 kids(197)=198,199");
        EDGES.run("14: -4 200 items and 40 kids", Edges.wide(195), "copy(5)!-4 copy(199)!-4");
        EDGES.run("14: -1 before -4", Edges.wide(195), "copy(200)!-1 copy(0)!-1 copy(4)!-1 copy(-1)!-1",
            "remove(5)=0 copy(5)!-1 copy(6)!-4");
        EDGES.run("14: -1 before -4 at 40 kids", "node(-1, 0) 40*page(0) copy(41)!-1 copy(0)!-1 remove(1)=0",
            "copy(1)!-1 copy(2)=41");
    }

    private static void removeEdges() {
        EDGES.run("15: -1 no root, no page", "remove(0)!-1 node(-1, 0) remove(0)!-1 remove(-1)!-1");
        EDGES.run("15: -1 no such page", SMALL, "remove(8)!-1 remove(-1)!-1 remove(200)!-1 remove(MAX)!-1",
            "remove(MIN)!-1");
        EDGES.run("15: -1 a node is no page", SMALL, "remove(0)!-1 remove(2)!-1 remove(7)!-1");
        EDGES.run("15: -1 not in the document", SMALL, "remove(3)=0 remove(3)!-1 balance()=0 page(7)=8",
            "remove(8)!-1");
        EDGES.run("15: -3 it is the only one", "node(-1, 0) page(0) name(5, 1) inherit(0, 0, 3) remove(1)!-3",
            "look(5)=1 about(1, 1)=0");
        EDGES.run("15: -3 the only one, listed often", "node(-1, 0) page(0) node(0, 0) list(2, 1)",
            "3*list(0, 1) remove(1)!-3",
            "kids(0)=1,2,1,1,1 kids(2)=1");
        EDGES.run("15: -3 the only one that is left", "node(-1, 0) page(0) page(0) page(0) remove(2)=0",
            "remove(1)=0 remove(3)!-3 order()=3");
        EDGES.run("15: the only one in the document, others outside", SMALL, "balance()=0 page(7)=8 remove(1)",
            "remove(3) remove(4)",
            "remove(6)!-3 list(0, 8) remove(6)=0 remove(8)!-3");
        EDGES.run("15: -1 before -3", "node(-1, 0) page(0) page(0) remove(1)=0 remove(1)!-1 remove(0)!-1",
            "remove(3)!-1 remove(2)!-3");
        EDGES.run("15: two pages", "node(-1, 0) page(0) page(0) remove(1)=0 kids(0)=2 about(1, 1)=-1",
            "about(1, 4)=-1 about(1, 0)=1");
        EDGES.run("15: off all lists", SMALL, "list(0, 3) 2*list(2, 3) list(5, 3) list(7, 3) remove(3)=0",
            "kids(0)=1,2,5,7 kids(2)=4",
            "kids(5)=6 kids(7)= order()=1,4,6 about(2, 3)=88 count(0)=8");
        EDGES.run("15: off a full list", "node(-1, 0) page(0) page(0) 38*list(0, 1) remove(1)=0 kids(0)=2",
            "page(0)=3");
        EDGES.run("15: its number is not free", "node(-1, 0) page(0) page(0) remove(2)=0 page(0)=3 count(0)=4");
    }

    private static void removeNames() {
        EDGES.run("15: no names", SMALL, "name(1, 3) remove(1)=0 look(1)=3 count(2)=1");
        EDGES.run("15: some of the names", SMALL, "name(1, 3) name(2, 1) name(3, 3) name(4, 6) remove(3)=2",
            "look(1)=-1 look(2)=1",
            "look(3)=-1 look(4)=6 count(2)=2");
        EDGES.run("15: all 60 names", SMALL, Edges.each(0, 59, "name(%d, 4)"), "remove(4)=60 count(2)=0",
            "look(0)=-1 look(59)=-1",
            Edges.each(1, 60, "name(%d, 1)=%d"), "name(0, 1)!-4");
        EDGES.run("15: the last of 60 names", SMALL, Edges.each(0, 58, "name(%d, 4)"), "name(59, 1)=60",
            "remove(1)=1 look(59)=-1",
            "look(58)=4 count(2)=59 name(60, 4)=60");
    }
}
