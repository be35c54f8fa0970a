/** Promises 16 and 17: label, text. */
public final class LabelTest {
    private static final Check CHECK = new Check();

    public static void main(String[] args) {
        noRanges();
        rangeEnds();
        digits();
        roman();
        letters();
        refusals();
        twentyRanges();
        noPages();
        placesNotPages();
        lastPlace();
        CHECK.end();
    }

    private static void noRanges() {
        PageTree tree = Check.flat(12);
        CHECK.label("no ranges", tree, 0, "1");
        CHECK.label("no ranges", tree, 8, "9");
        CHECK.label("no ranges", tree, 9, "10");
        CHECK.label("no ranges", tree, 11, "12");
        CHECK.due("no such page", tree.text(12, 0), -1);
        CHECK.due("no such page", tree.text(-1, 0), -1);
        CHECK.due("no such sign", tree.text(0, Integer.MAX_VALUE), -1);
        CHECK.due("no such sign", tree.text(0, Integer.MIN_VALUE), -1);
    }

    private static void rangeEnds() {
        PageTree tree = Check.flat(12);
        CHECK.due("label", tree.label(8, 2, 3), 1);
        CHECK.due("label", tree.label(3, 1, 5), 2);
        CHECK.label("before all", tree, 2, "3");
        CHECK.label("the first of it", tree, 3, "v");
        CHECK.label("the last of it", tree, 7, "ix");
        CHECK.label("the next one", tree, 8, "c");
        CHECK.label("to the end", tree, 11, "f");
        CHECK.due("one between", tree.label(5, 0, 42), 3);
        CHECK.label("ends earlier", tree, 4, "vi");
        CHECK.label("between", tree, 7, "44");
        CHECK.due("in its place", tree.label(5, 1, 1), 3);
        CHECK.label("in its place", tree, 7, "iii");
        CHECK.due("from the beginning", tree.label(0, 2, 26), 4);
        CHECK.label("from the beginning", tree, 0, "z");
        CHECK.label("from the beginning", tree, 1, "aa");
        CHECK.due("count(1)", tree.count(1), 4);
    }

    private static void digits() {
        int[] numbers = {1, 9, 10, 99, 100, 101, 110, 999, 1000};
        for (int number : numbers) {
            PageTree tree = Check.flat(2);
            tree.label(0, 0, number);
            CHECK.label("digits", tree, 0, "" + number);
            CHECK.label("digits", tree, 1, "" + (number + 1));
        }
    }

    private static void roman() {
        String[][] due = {
            {"1", "i"}, {"2", "ii"}, {"3", "iii"}, {"4", "iv"}, {"5", "v"}, {"6", "vi"}, {"8", "viii"},
            {"9", "ix"}, {"10", "x"}, {"14", "xiv"}, {"19", "xix"}, {"39", "xxxix"}, {"40", "xl"},
            {"44", "xliv"}, {"49", "xlix"}, {"50", "l"}, {"89", "lxxxix"}, {"90", "xc"}, {"99", "xcix"},
            {"100", "c"}, {"388", "ccclxxxviii"}, {"399", "cccxcix"}, {"400", "cd"}, {"444", "cdxliv"},
            {"499", "cdxcix"}, {"500", "d"}, {"888", "dccclxxxviii"}, {"899", "dcccxcix"}, {"900", "cm"},
            {"999", "cmxcix"}, {"1000", "m"}};
        for (String[] pair : due) {
            PageTree tree = Check.flat(1);
            tree.label(0, 1, Integer.parseInt(pair[0]));
            CHECK.label("roman " + pair[0], tree, 0, pair[1]);
        }
    }

    private static void letters() {
        int[] numbers = {1, 2, 26, 27, 28, 52, 53, 78, 79, 999, 1000};
        for (int number : numbers) {
            PageTree tree = Check.flat(1);
            tree.label(0, 2, number);
            String letter = "" + "abcdefghijklmnopqrstuvwxyz".charAt((number - 1) % 26);
            CHECK.label("letters " + number, tree, 0, letter.repeat((number + 25) / 26));
        }
    }

    private static void refusals() {
        PageTree tree = Check.flat(1);
        CHECK.due("from -1", tree.label(-1, 0, 1), -2);
        CHECK.due("from 200", tree.label(200, 0, 1), -2);
        CHECK.due("style -1", tree.label(0, -1, 1), -2);
        CHECK.due("style 3", tree.label(0, 3, 1), -2);
        CHECK.due("first 0", tree.label(0, 0, 0), -2);
        CHECK.due("first 1001", tree.label(0, 0, 1001), -2);
        CHECK.due("count(1)", tree.count(1), 0);
        CHECK.due("from 199", tree.label(199, 2, 1000), 1);
    }

    private static void twentyRanges() {
        PageTree tree = Check.flat(30);
        for (int i = 0; i < 20; i++) {
            CHECK.due("label " + i, tree.label(i, 0, 100 * (i % 10) + 1), i + 1);
        }
        CHECK.due("one more", tree.label(20, 0, 1), -4);
        CHECK.due("one more, outside", tree.label(200, 0, 1), -2);
        CHECK.due("in place of one", tree.label(19, 2, 2), 20);
        CHECK.due("in place of one", tree.label(0, 1, 2), 20);
        CHECK.label("in place of one", tree, 0, "ii");
        CHECK.label("in place of one", tree, 20, "c");
        CHECK.label("the others", tree, 18, "801");
        CHECK.due("count(1)", tree.count(1), 20);
    }

    private static void noPages() {
        PageTree tree = new PageTree();
        CHECK.due("without pages", tree.label(0, 1, 7), 1);
        CHECK.due("no such page", tree.text(0, 0), -1);
        tree.node(-1, 0);
        CHECK.due("no such page", tree.text(0, 0), -1);
        tree.page(0);
        CHECK.label("a page", tree, 0, "vii");
    }

    private static void placesNotPages() {
        PageTree tree = Check.flat(3);
        tree.label(1, 1, 1);
        tree.move(1, 2);
        CHECK.label("ranges stay", tree, 0, "1");
        CHECK.label("ranges stay", tree, 1, "i");
        CHECK.label("ranges stay", tree, 2, "ii");
        tree.remove(1);
        CHECK.due("no such page", tree.text(2, 0), -1);
    }

    private static void lastPlace() {
        PageTree tree = Check.wide(194);
        CHECK.label("194", tree, 193, "194");
        tree.label(0, 2, 1000);
        CHECK.label("1193", tree, 193, "w".repeat(46));
        tree.label(0, 0, 1000);
        CHECK.label("1193", tree, 193, "1193");
        tree.label(0, 1, 1000);
        CHECK.label("1193", tree, 193, "mcxciii");
        tree.label(193, 1, 888);
        CHECK.label("888", tree, 193, "dccclxxxviii");
    }
}
