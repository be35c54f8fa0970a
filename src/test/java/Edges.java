import java.util.ArrayList;
import java.util.Arrays;
import java.util.Collections;
import java.util.List;
import java.util.regex.Matcher;
import java.util.regex.Pattern;

/**
 * Runs of calls on a new object, written as text, such as "node(-1, 0)=0 39*page(0) page(0)=40 page(0)!-4".
 *
 * <p>"=" stands before the due answer, "39*" before a call that is made so often, with any answer.
 * "!" stands before the due answer of a call that changes nothing: no later call may tell an object that
 * had it from one that had not. These stand for several calls:
 * kids(node)=1,2 order()=1,2 values(page)=1,2,3,4 told()=4:0,3:2 and text(place)=vii; with
 * nothing behind "=" there are none. No object gets more than 512 calls.
 */
final class Edges {
    private static final int MAX_CALLS = 512;
    private static final Pattern STEP =
        Pattern.compile("\\s*(?:(\\d+)\\*)?([a-z]+)\\(([^)]*)\\)(?:([=!])(\\S*))?\\s*");

    private final Check check = new Check();
    private String sentence;
    private List<Call> made;
    private PageTree tree;

    /** A run on a new object; the sentence says what it is for. */
    void run(String sentence, String... parts) {
        this.sentence = sentence;
        made = new ArrayList<>();
        tree = new PageTree();
        String text = String.join(" ", parts);
        Matcher step = STEP.matcher(text);
        int end = 0;
        while (end < text.length()) {
            if (!step.find(end) || step.start() != end) {
                throw new IllegalArgumentException(sentence + ": not a call: " + text.substring(end));
            }
            take(step);
            end = step.end();
        }
    }

    void end() {
        check.end();
    }

    /** The text once for each number, with the number for each %d. */
    static String each(int from, int to, String text) {
        StringBuilder all = new StringBuilder();
        for (int i = from; i <= to; i++) {
            all.append(text.replace("%d", Integer.toString(i))).append(' ');
        }
        return all.toString();
    }

    /** The number, so many times, with commas between. */
    static String same(int times, int number) {
        return String.join(",", Collections.nCopies(times, Integer.toString(number)));
    }

    /** The numbers of a range, with commas between. */
    static String row(int from, int to) {
        StringBuilder all = new StringBuilder();
        for (int i = from; i <= to; i++) {
            all.append(i == from ? "" : ",").append(i);
        }
        return all.toString();
    }

    /** Nodes 0 to n - 1, each the only kid of the one before, with that count. */
    static String chain(int nodes, int count) {
        return "node(-1, " + count + ") " + each(0, nodes - 2, "node(%d, " + count + ")");
    }

    /** A root with nodes 1 to 4 and then pages from 5, 40 in each node, the rest in the root; 195 at most. */
    static String wide(int pages) {
        StringBuilder all = new StringBuilder("node(-1, 0) 4*node(0, 0) ");
        int rest = pages;
        for (int node = 1; node <= 4; node++) {
            all.append(Math.min(rest, 40)).append("*page(").append(node).append(") ");
            rest -= Math.min(rest, 40);
        }
        return all.append(rest).append("*page(0) ").toString();
    }

    private void take(Matcher step) {
        String name = step.group(2);
        int[] args = numbers(step.group(3));
        String sign = step.group(4);
        String answer = step.group(5);
        if (sign == null) {
            int times = step.group(1) == null ? 1 : Integer.parseInt(step.group(1));
            for (int i = 0; i < times; i++) {
                make(new Call(name, args));
            }
        } else if (sign.equals("!")) {
            Call refused = new Call(name, args);
            new Twins(refused).compare();
            due(refused, number(answer));
        } else if (!takeSeveral(name, args, answer)) {
            due(new Call(name, args), number(answer));
        }
    }

    private boolean takeSeveral(String name, int[] args, String answer) {
        switch (name + args.length) {
            case "kids1":
                takeKids(args[0], numbers(answer));
                return true;
            case "order0":
                takeOrder(numbers(answer));
                return true;
            case "values1":
                takeValues(args[0], numbers(answer));
                return true;
            case "told0":
                takeTold(numbers(answer.replace(':', ',')));
                return true;
            case "text1":
                takeLabel(args[0], answer);
                return true;
            default:
                return false;
        }
    }

    private void takeKids(int node, int[] kids) {
        due(new Call("about", node, 2), kids.length);
        due(new Call("kid", node, -1), -1);
        for (int k = 0; k < kids.length; k++) {
            due(new Call("kid", node, k), kids[k]);
        }
        due(new Call("kid", node, kids.length), -1);
    }

    private void takeOrder(int[] pages) {
        due(new Call("pages"), pages.length);
        due(new Call("at", -1), -1);
        for (int i = 0; i < pages.length; i++) {
            due(new Call("at", i), pages[i]);
            due(new Call("about", pages[i], 4), i);
        }
        due(new Call("at", pages.length), -1);
    }

    private void takeValues(int page, int[] values) {
        for (int key = 0; key < values.length; key++) {
            due(new Call("of", page, key), values[key]);
        }
    }

    private void takeTold(int[] pairs) {
        for (int i = 0; i < pairs.length; i++) {
            due(new Call("told", i / 2, i % 2), pairs[i]);
        }
        due(new Call("told", pairs.length / 2, 0), -1);
        due(new Call("told", pairs.length / 2, 1), -1);
    }

    private void takeLabel(int place, String label) {
        due(new Call("text", place, -1), -1);
        for (int k = 0; k < label.length(); k++) {
            due(new Call("text", place, k), label.charAt(k));
        }
        due(new Call("text", place, label.length()), -1);
    }

    private void due(Call call, int want) {
        check.due(sentence + ": call " + (made.size() + 1) + ", " + call, make(call), want);
    }

    private int make(Call call) {
        if (made.size() == MAX_CALLS) {
            throw new IllegalArgumentException(sentence + ": more than 512 calls");
        }
        made.add(call);
        return call.on(tree);
    }

    private static int[] numbers(String text) {
        String[] parts = text.isBlank() ? new String[0] : text.split(",");
        return Arrays.stream(parts).mapToInt(Edges::number).toArray();
    }

    private static int number(String text) {
        return switch (text.trim()) {
            case "MAX" -> Integer.MAX_VALUE;
            case "MIN" -> Integer.MIN_VALUE;
            default -> Integer.parseInt(text.trim());
        };
    }

    /** Two objects after the same calls, one of them with a refused call more; then the same later ones. */
    private final class Twins {
        private final Call refused;
        private final List<Call> later = new ArrayList<>();
        private final List<Integer> nodes = new ArrayList<>();
        private PageTree plain;
        private PageTree asked;
        private int left;

        Twins(Call refused) {
            this.refused = refused;
        }

        void compare() {
            compareReads();
            int first = read("at", 0);
            int last = read("pages") - 1;
            for (int node : nodes) {
                addPage(node);
            }
            takeValuesOffNodes();
            compareBehind("mend()");
            compareBehind("balance()");
            compareBehind("label(0, 2, 1) label(198, 1, 7)");
            compareBehind("name(0, " + first + ") name(9998, " + first + ")");
            compareBehind("copy(" + first + ")");
            compareBehind("move(" + first + ", " + last + ")");
            compareBehind("remove(" + first + ")");
            compareBehind("node(-1, 3) node(0, 3) list(0, 0)");
        }

        private void renew() {
            left = MAX_CALLS - made.size() - 1 - later.size();
            if (left < 1) {
                throw new IllegalArgumentException(sentence + ": no calls are left behind " + refused);
            }
            plain = new PageTree();
            asked = new PageTree();
            for (Call call : made) {
                call.on(plain);
                call.on(asked);
            }
            refused.on(asked);
            for (Call call : later) {
                same(call);
            }
        }

        private int same(Call call) {
            int want = call.on(plain);
            int got = call.on(asked);
            if (got != want) {
                check.due(sentence + ": behind " + made.size() + " calls, the refused " + refused + " and "
                    + later + ", " + call, got, want);
            }
            return want;
        }

        /** Goes on with other objects when these have had their calls, as reading changes nothing. */
        private int read(String name, int... args) {
            if (left == 0) {
                renew();
            }
            left--;
            return same(new Call(name, args));
        }

        private void compareReads() {
            renew();
            nodes.clear();
            int items = read("count", 0);
            read("count", 1);
            read("count", 2);
            for (int item = 0; item <= items; item++) {
                readItem(item);
            }
            int pages = read("pages");
            for (int i = 0; i <= pages; i++) {
                read("at", i);
                readWhile("text", i);
            }
            for (int i = 0; read("told", i, 0) != -1; i++) {
                read("told", i, 1);
            }
            readNames();
        }

        private void readItem(int item) {
            if (read("about", item, 0) == 0) {
                nodes.add(item);
            }
            for (int what = 1; what <= 4; what++) {
                read("about", item, what);
            }
            for (int key = 0; key < 4; key++) {
                read("of", item, key);
            }
            readWhile("kid", item);
        }

        private void readWhile(String name, int of) {
            int k = 0;
            while (read(name, of, k) != -1) {
                k++;
            }
        }

        private void readNames() {
            List<Call> all = new ArrayList<>(made);
            all.add(refused);
            for (Call call : all) {
                if (call.name().equals("name")) {
                    read("look", call.args()[0]);
                }
            }
        }

        /** Shows which values of pages are their own, and which they had from above. */
        private void takeValuesOffNodes() {
            StringBuilder calls = new StringBuilder();
            for (Call call : made) {
                if (call.name().equals("inherit") && nodes.contains(call.args()[0])) {
                    calls.append("inherit(" + call.args()[0] + ", " + call.args()[1] + ", -1) ");
                }
            }
            compareBehind(calls.toString());
        }

        /** Shows the values of a node without pages. */
        private void addPage(int node) {
            later.add(new Call("page", node));
            renew();
            int added = read("count", 0) - 1;
            for (int key = 0; key < 4; key++) {
                read("of", added, key);
            }
            later.clear();
        }

        private void compareBehind(String calls) {
            Matcher step = STEP.matcher(calls);
            while (step.find()) {
                later.add(new Call(step.group(2), numbers(step.group(3))));
            }
            if (!later.isEmpty()) {
                compareReads();
            }
            later.clear();
        }
    }
}
