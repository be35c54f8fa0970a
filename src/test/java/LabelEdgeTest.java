/** The edges of promises 16 and 17: label, text. */
public final class LabelEdgeTest {
    private static final Edges EDGES = new Edges();
    private static final String TWELVE = "node(-1, 0) 12*page(0) ";
    private static final String TWENTY_RANGES = Edges.each(0, 19, "label(%d, 0, 100)");

    public static void main(String[] args) {
        labelLimits();
        labelOutside();
        twentyRanges();
        rangeEnds();
        textEdges();
        digits();
        roman();
        letters();
        mostPages();
        EDGES.end();
    }

    private static void labelLimits() {
        EDGES.run("16: from 0 to 199", TWELVE, "label(0, 0, 5)=1 label(199, 0, 5)=2 text(0)=5");
        EDGES.run("16: styles 0 to 2", TWELVE, "label(0, 0, 5)=1 label(1, 1, 5)=2 label(2, 2, 5)=3 text(0)=5",
            "text(1)=v text(2)=e");
        EDGES.run("16: first 1 to 1000", TWELVE, "label(0, 0, 1)=1 label(1, 0, 1000)=2 text(0)=1 text(1)=1000",
            "text(2)=1001");
        EDGES.run("16: no root, no page", "label(0, 0, 1)=1 label(0, 3, 1)!-2 node(-1, 0) label(1, 0, 1)=2",
            "page(0) text(0)=1");
    }

    private static void labelOutside() {
        String[] befores = {"", TWELVE, TWELVE + "label(0, 1, 7) ", TWELVE + TWENTY_RANGES};
        for (String before : befores) {
            EDGES.run("16: -2 no such place", before, "label(-1, 0, 1)!-2 label(200, 0, 1)!-2",
                "label(MAX, 0, 1)!-2 label(MIN, 0, 1)!-2");
            EDGES.run("16: -2 style not 0 .. 2", before, "label(0, -1, 1)!-2 label(0, 3, 1)!-2",
                "label(0, MAX, 1)!-2 label(0, MIN, 1)!-2");
            EDGES.run("16: -2 no such first", before, "label(0, 0, 0)!-2 label(0, 0, 1001)!-2",
                "label(0, 0, -1)!-2 label(0, 0, MAX)!-2",
                "label(0, 0, MIN)!-2");
        }
    }

    private static void twentyRanges() {
        EDGES.run("16: -4 there are 20", TWELVE, Edges.each(1, 19, "label(%d, 0, 100)=%d"),
            "label(0, 0, 7)=20 label(20, 0, 1)!-4",
            "label(199, 0, 1)!-4 label(21, 2, 1000)!-4 text(0)=7");
        EDGES.run("16: -2 before -4", TWENTY_RANGES, "label(20, 3, 1)!-2 label(200, 0, 1)!-2",
            "label(20, 0, 0)!-2 label(20, 0, 1)!-4");
        EDGES.run("16: one that began there is no more, also when there are 20", TWELVE, TWENTY_RANGES,
            "label(0, 1, 4)=20 label(19, 2, 5)=20 label(7, 2, 3)=20 count(1)=20 text(0)=iv text(1)=100",
            "text(7)=c text(8)=100",
            "label(20, 0, 1)!-4");
        EDGES.run("16: one that began there is no more, the first one", TWELVE, "label(3, 0, 8)=1",
            "label(3, 1, 9)=1 label(3, 2, 1)=1",
            "count(1)=1 text(3)=a text(4)=b");
        EDGES.run("16: 20, in any order", TWELVE, "label(199, 0, 1)=1", Edges.each(0, 18, "label(%d, 1, 1)"),
            "count(1)=20",
            "label(198, 0, 1)!-4 label(199, 2, 2)=20 text(11)=i");
    }

    private static void rangeEnds() {
        EDGES.run("17: pages before all ranges", TWELVE, "label(10, 1, 1) text(0)=1 text(8)=9 text(9)=10",
            "text(10)=i text(11)=ii");
        EDGES.run("17: a range at 0: none before", TWELVE, "label(0, 2, 26) text(0)=z text(1)=aa text(2)=bb");
        EDGES.run("17: to where the next one begins", TWELVE, "label(2, 1, 5) label(5, 2, 1) text(1)=2",
            "text(2)=v text(4)=vii text(5)=a",
            "text(11)=g");
        EDGES.run("17: ranges of one page", TWELVE, "label(3, 1, 1) label(4, 1, 1) label(5, 0, 1) text(2)=3",
            "text(3)=i text(4)=i",
            "text(5)=1 text(6)=2");
        EDGES.run("17: told in any order", TWELVE, "label(8, 0, 80) label(2, 0, 20) label(5, 0, 50) text(1)=2",
            "text(4)=22 text(5)=50",
            "text(7)=52 text(8)=80 text(11)=83");
        EDGES.run("17: one at the last page, one behind it", TWELVE, "label(11, 1, 9) label(12, 2, 1)",
            "text(10)=11 text(11)=ix",
            "text(12, 0)=-1 page(0) text(12)=a");
        EDGES.run("17: ranges stay at their places", TWELVE, "label(1, 1, 1) remove(1) text(0)=1 text(1)=i",
            "move(2, 5)=5 text(5)=v");
    }

    private static void textEdges() {
        EDGES.run("17: -1 no root, no page", "text(0, 0)=-1 label(0, 0, 1) text(0, 0)=-1 node(-1, 0)",
            "text(0, 0)=-1");
        EDGES.run("17: -1 no such page", TWELVE, "text(11, 0)=49 text(12, 0)=-1 text(-1, 0)=-1",
            "text(199, 0)=-1 text(200, 0)=-1",
            "text(MAX, 0)=-1 text(MIN, 0)=-1");
        EDGES.run("17: -1 no such sign", TWELVE, "text(0, 0)=49 text(0, 1)=-1 text(0, -1)=-1 text(11, 1)=50",
            "text(11, 2)=-1",
            "text(11, MAX)=-1 text(11, MIN)=-1");
        EDGES.run("17: -1 no sign of a longer label before", TWELVE, "label(0, 1, 888) label(1, 1, 1)",
            "text(0)=dccclxxxviii text(1, 0)=105",
            "text(1, 1)=-1 text(1, 5)=-1 text(1, 11)=-1");
        EDGES.run("17: -1 a removed page's place", "node(-1, 0) page(0) page(0) text(1)=2 remove(1) text(0)=1",
            "text(1, 0)=-1");
    }

    private static void digits() {
        int[] numbers = {1, 9, 10, 11, 99, 100, 101, 109, 110, 999, 1000};
        for (int number : numbers) {
            EDGES.run("17: style 0, " + number, TWELVE, "label(0, 0, " + number + ") text(0)=" + number,
                "text(1)=" + (number + 1));
        }
    }

    private static void roman() {
        String[] labels = {"1 i", "3 iii", "4 iv", "5 v", "6 vi", "8 viii", "9 ix", "10 x", "11 xi",
            "39 xxxix", "40 xl", "41 xli", "49 xlix", "50 l", "51 li", "89 lxxxix", "90 xc", "91 xci",
            "99 xcix", "100 c", "101 ci", "399 cccxcix", "400 cd", "401 cdi", "499 cdxcix", "500 d",
            "501 di", "899 dcccxcix", "900 cm", "901 cmi", "999 cmxcix", "1000 m"};
        for (String each : labels) {
            String[] pair = each.split(" ");
            EDGES.run("17: style 1, " + pair[0], TWELVE, "label(0, 1, " + pair[0] + ") text(0)=" + pair[1]);
        }
        EDGES.run("17: style 1, beyond 1000", TWELVE, "label(0, 1, 1000) text(1)=mi text(4)=miv text(9)=mix",
            "text(11)=mxi");
    }

    private static void letters() {
        EDGES.run("17: style 2, 1 to 26", TWELVE, "label(0, 2, 1) label(2, 2, 25) text(0)=a text(1)=b",
            "text(2)=y text(3)=z text(4)=aa");
        EDGES.run("17: style 2, 27 to 52", TWELVE, "label(0, 2, 27) label(2, 2, 51) text(0)=aa text(1)=bb",
            "text(2)=yy text(3)=zz text(4)=aaa");
        EDGES.run("17: style 2, 53 and so on", TWELVE, "label(0, 2, 53) label(2, 2, 78) text(0)=aaa",
            "text(1)=bbb text(2)=zzz text(3)=aaaa");
        EDGES.run("17: style 2, 988, 989, 1000", TWELVE, "label(0, 2, 988) label(2, 2, 1000)",
            "text(0)=" + "z".repeat(38),
            "text(1)=" + "a".repeat(39), "text(2)=" + "l".repeat(39));
    }

    private static void mostPages() {
        EDGES.run("17: the last page of the most", Edges.wide(195), "text(194)=195 text(195, 0)=-1 text(8)=9",
            "text(98)=99 text(99)=100");
        EDGES.run("17: the greatest number, digits", Edges.wide(195), "label(0, 0, 1000) text(194)=1194");
        EDGES.run("17: the greatest number, roman", Edges.wide(195), "label(0, 1, 1000) text(194)=mcxciv",
            "text(188)=mclxxxviii");
        EDGES.run("17: the greatest number, letters", Edges.wide(195), "label(0, 2, 1000)",
            "text(194)=" + "x".repeat(46));
        EDGES.run("17: a range at the last page", Edges.wide(195), "label(194, 2, 2) label(195, 1, 1)",
            "text(193)=194 text(194)=b");
    }
}
