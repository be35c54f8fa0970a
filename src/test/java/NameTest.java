/** Promises 18 and 19: name, look. */
public final class NameTest {
    private static final Check CHECK = new Check();

    public static void main(String[] args) {
        leading();
        refusals();
        sixty();
        afterChanges();
        CHECK.end();
    }

    private static void leading() {
        PageTree tree = Check.flat(2);
        CHECK.due("name(0, 1)", tree.name(0, 1), 1);
        CHECK.due("name(9999, 2)", tree.name(9999, 2), 2);
        CHECK.due("name(5, 1)", tree.name(5, 1), 3);
        CHECK.due("look(0)", tree.look(0), 1);
        CHECK.due("look(9999)", tree.look(9999), 2);
        CHECK.due("look(5)", tree.look(5), 1);
        CHECK.due("look(1)", tree.look(1), -1);
        CHECK.due("look(-1)", tree.look(-1), -1);
        CHECK.due("look(10000)", tree.look(10000), -1);
        CHECK.due("count(2)", tree.count(2), 3);
    }

    private static void refusals() {
        PageTree tree = Check.flat(3);
        tree.name(1, 1);
        tree.remove(3);
        CHECK.due("a node", tree.name(2, 0), -1);
        CHECK.due("not in the document", tree.name(2, 3), -1);
        CHECK.due("unknown", tree.name(2, 4), -1);
        CHECK.due("unknown, no such name", tree.name(-1, -1), -1);
        CHECK.due("unknown, leads already", tree.name(1, 9), -1);
        CHECK.due("no such name", tree.name(-1, 1), -2);
        CHECK.due("no such name", tree.name(10000, 1), -2);
        CHECK.due("leads already", tree.name(1, 2), -3);
        CHECK.due("leads already, to that", tree.name(1, 1), -3);
        CHECK.due("nothing was done", tree.count(2), 1);
        CHECK.due("nothing was done", tree.look(1), 1);
    }

    private static void sixty() {
        PageTree tree = Check.flat(2);
        for (int i = 0; i < 60; i++) {
            CHECK.due("name " + i, tree.name(100 + i, 1 + i % 2), i + 1);
        }
        CHECK.due("one more", tree.name(5, 1), -4);
        CHECK.due("one more, leads already", tree.name(100, 1), -3);
        CHECK.due("one more, no such name", tree.name(10000, 1), -2);
        CHECK.due("one more, no such page", tree.name(5, 3), -1);
        CHECK.due("30 of them", tree.remove(1), 30);
        CHECK.due("count(2)", tree.count(2), 30);
        CHECK.due("room again", tree.name(100, 2), 31);
        CHECK.due("the others stay", tree.look(159), 2);
        CHECK.due("those are no more", tree.look(158), -1);
    }

    private static void afterChanges() {
        PageTree tree = Check.flat(6);
        tree.name(3, 3);
        tree.move(3, 0);
        CHECK.due("moved", tree.look(3), 3);
        tree.copy(3);
        CHECK.due("copied", tree.look(3), 3);
        CHECK.due("copied", tree.count(2), 1);
        tree.balance();
        CHECK.due("balanced", tree.look(3), 3);
    }
}
