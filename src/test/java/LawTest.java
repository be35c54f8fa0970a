import java.util.ArrayList;
import java.util.HashSet;
import java.util.List;
import java.util.Set;

/**
 * What the document says of each changing call, held against all that can be read before and behind it.
 * The model only helps to draw the calls: no due answer comes from it.
 */
public final class LawTest {
    private static final int RUNS = 3000;
    private static final int MAX_BEFORE = 250;
    private static final int MAX_TOLD = 100;
    private static final String[] CHANGES = {"mend", "move", "copy", "remove", "balance",
        "node", "page", "list", "inherit", "label", "name"};

    private static final Check CHECK = new Check();
    private static String when;
    private static State before;
    private static State behind;

    public static void main(String[] args) {
        int runs = args.length > 0 ? Integer.parseInt(args[0]) : RUNS;
        int from = args.length > 1 ? Integer.parseInt(args[1]) : 0;
        for (int run = from; run < from + runs; run++) {
            take(run);
        }
        CHECK.end();
    }

    private static void take(int run) {
        Draw draw = new Draw(run);
        Model model = new Model();
        List<Call> calls = new ArrayList<>();
        PageTree tree = new PageTree();
        int length = draw.below(MAX_BEFORE);
        for (int i = 0; i < length; i++) {
            add(draw.call(model), calls, model, tree);
        }
        before = new State(calls);
        Call change = draw.callOf(CHANGES[run / 12 % CHANGES.length], model);
        int answer = add(change, calls, model, tree);
        behind = new State(calls);
        when = "run " + run + ", " + change + " behind " + length + " calls";
        walkLaws();
        if (answer < 0) {
            law("a refusal changes nothing", before.all().equals(behind.all()));
        } else {
            laws(change, answer, calls);
        }
    }

    private static int add(Call call, List<Call> calls, Model model, PageTree tree) {
        calls.add(call);
        Both.invoke(model, call);
        return call.on(tree);
    }

    private static void law(String text, boolean holds) {
        CHECK.due(when + ": " + text, holds ? 1 : 0, 1);
    }

    private static void laws(Call change, int answer, List<Call> calls) {
        int first = change.args().length > 0 ? change.args()[0] : 0;
        switch (change.name()) {
            case "mend" -> mendLaws(answer, calls);
            case "move" -> moveLaws(first, change.args()[1], answer);
            case "copy" -> copyLaws(first, answer);
            case "remove" -> removeLaws(first, answer);
            case "balance" -> balanceLaws(answer, calls);
            case "node", "page" -> addLaws(change.name().equals("page"), first, answer);
            case "list" -> listLaws(first, change.args()[1], answer);
            default -> otherLaws(change.name(), answer);
        }
    }

    /** The walk along the lists that kid() shows is the order that at() and about() show. */
    private static void walkLaws() {
        List<Integer> taken = new ArrayList<>();
        if (!behind.items.isEmpty()) {
            walk(0, new HashSet<>(Set.of(0)), taken);
        }
        law("the order", taken.equals(behind.order));
        law("how many names", behind.nameCount == behind.names.size());
        for (int item = 0; item < behind.items.size(); item++) {
            law("the place of " + item, behind.items.get(item).place() == taken.indexOf(item));
        }
    }

    private static void walk(int node, Set<Integer> met, List<Integer> taken) {
        for (int kid : behind.items.get(node).kids()) {
            if (met.add(kid)) {
                if (behind.items.get(kid).page()) {
                    taken.add(kid);
                } else {
                    walk(kid, met, taken);
                }
            }
        }
    }

    private static void mendLaws(int answer, List<Call> calls) {
        rightTree();
        law("how many are told", behind.told.size() == Math.min(answer, MAX_TOLD));
        List<Integer> old = new ArrayList<>(behind.order);
        old.removeIf(page -> page >= before.items.size());
        law("pages keep their order", old.equals(before.order));
        if (answer <= MAX_TOLD) {
            toldLaws();
        }
        String state = behind.items.toString();
        calls.add(new Call("mend"));
        State again = new State(calls);
        law("mend() again tells nothing", again.told.isEmpty());
        law("mend() again changes nothing", again.items.toString().equals(state));
    }

    private static void toldLaws() {
        int copies = 0;
        int gone = 0;
        Set<Integer> lied = new HashSet<>();
        for (String each : behind.told) {
            int kind = each.charAt(0) - '0';
            int item = Integer.parseInt(each.substring(2));
            copies += kind == 3 ? 1 : 0;
            gone += kind == 1 || kind == 2 || kind == 5 ? 1 : 0;
            law("told 1, 2, 4 of a node, 3, 5 of a page", behind.items.get(item).page() == (kind == 3 || kind == 5));
            law("told 5 at 200 items", kind != 5 || behind.items.size() == 200);
            law("told 4 once", kind != 4 || lied.add(item));
        }
        law("a new item for each 3", behind.items.size() - before.items.size() == copies);
        law("a kid less for each 1, 2, 5", kidsIn(before) - kidsIn(behind) == gone);
        for (int item = 0; item < before.items.size(); item++) {
            boolean changed = before.items.get(item).count() != behind.items.get(item).count();
            law("told 4 for the count of " + item, changed == lied.contains(item));
        }
    }

    private static int kidsIn(State state) {
        int all = 0;
        for (State.Item item : state.items) {
            all += item.kids().size();
        }
        return all;
    }

    /** From the root, each item is met once, under its parent, and each node's count is right. */
    private static void rightTree() {
        if (!behind.items.isEmpty()) {
            pagesBelow(0, new HashSet<>(Set.of(0)));
        }
    }

    private static int pagesBelow(int node, Set<Integer> met) {
        int below = 0;
        for (int kid : behind.items.get(node).kids()) {
            State.Item item = behind.items.get(kid);
            boolean first = met.add(kid);
            law(kid + " is listed once", first);
            law("the parent of " + kid + " lists it", item.parent() == node);
            if (first) {
                below += item.page() ? 1 : pagesBelow(kid, met);
            }
        }
        law("the count of " + node, behind.items.get(node).count() == below);
        return below;
    }

    private static void moveLaws(int page, int to, int answer) {
        law("its place", answer == to && behind.items.get(page).place() == to);
        List<Integer> others = without(before.order, page);
        law("the others keep their order", others.equals(without(behind.order, page)));
        law("no item more", behind.items.size() == before.items.size());
        if (others.isEmpty()) {
            law("alone: nothing is done", before.all().equals(behind.all()));
            return;
        }
        int mark = to == others.size() ? others.get(to - 1) : others.get(to);
        int slots = 0;
        for (int node = 0; node < behind.items.size(); node++) {
            slots += timesIn(behind.items.get(node).kids(), page);
        }
        law("listed once", slots == 1);
        List<Integer> kids = behind.items.get(behind.items.get(page).parent()).kids();
        int slot = kids.indexOf(page);
        law("its parent lists it", slot >= 0);
        law("beside its neighbour", slot >= 0
            && (to == others.size() ? slot == kids.indexOf(mark) + 1 : slot == kids.indexOf(mark) - 1));
        valuesStay(page, page);
        othersStay(page);
        law("names stay", before.names.equals(behind.names));
    }

    private static void copyLaws(int page, int twin) {
        law("the next number", twin == before.items.size() && behind.items.size() == twin + 1);
        List<Integer> order = new ArrayList<>(before.order);
        order.add(order.indexOf(page) + 1, twin);
        law("right behind it in the order", order.equals(behind.order));
        List<Integer> kids = behind.items.get(behind.items.get(twin).parent()).kids();
        law("right behind it in its parent's list", kids.indexOf(twin) == kids.indexOf(page) + 1);
        valuesStay(page, twin);
        othersStay(twin);
        law("the page itself stays", before.items.get(page).equals(behind.items.get(page)));
    }

    private static void removeLaws(int page, int answer) {
        law("off the order", without(before.order, page).equals(behind.order));
        law("no parent", behind.items.get(page).parent() == -1);
        law("its names are no more", !behind.names.containsValue(page));
        law("how many these were", answer == before.nameCount - behind.nameCount);
        for (State.Item item : behind.items) {
            law("off all lists", !item.kids().contains(page));
        }
        othersStay(page);
    }

    private static void balanceLaws(int answer, List<Call> calls) {
        law("how many new nodes", behind.items.size() - before.items.size() == answer);
        law("the order stays", before.order.equals(behind.order));
        law("names and labels stay", before.names.equals(behind.names) && before.labels.equals(behind.labels));
        rightTree();
        for (int item = 0; item < before.items.size(); item++) {
            State.Item old = before.items.get(item);
            State.Item now = behind.items.get(item);
            boolean stands = item == 0 || now.place() != -1;
            law(item + " has kids or a parent", stands || now.kids().isEmpty() && now.parent() == -1);
            law("the count of " + item, item == 0 || old.count() == now.count());
            if (now.place() != -1) {
                valuesStay(item, item);
            }
        }
        law("the root has no parent", behind.items.get(0).parent() == -1);
        levelLaws();
        calls.add(new Call("mend"));
        law("nothing to mend", new State(calls).told.isEmpty());
    }

    /** By levels from the root down: up to 4 kids each, 4 for all but the last, and the root's more than one. */
    private static void levelLaws() {
        List<Integer> level = List.of(0);
        while (!level.isEmpty() && !behind.items.get(level.get(0)).page()) {
            List<Integer> next = new ArrayList<>();
            for (int i = 0; i < level.size(); i++) {
                int kids = behind.items.get(level.get(i)).kids().size();
                law("four kids, but for the last ones", i == level.size() - 1 ? kids >= 1 && kids <= 4 : kids == 4);
                next.addAll(behind.items.get(level.get(i)).kids());
            }
            for (int i = 1; i < next.size() && !behind.items.get(next.get(i)).page(); i++) {
                law("new numbers in order", next.get(i) == next.get(i - 1) + 1);
            }
            law("all of one kind", behind.items.get(next.get(0)).page()
                == behind.items.get(next.get(next.size() - 1)).page());
            level = next;
        }
        law("no level too many", behind.order.size() <= 4 || behind.items.get(0).kids().size() > 1);
    }

    private static void addLaws(boolean page, int parent, int added) {
        law("the next number", added == before.items.size() && behind.items.size() == added + 1);
        law("what it is", behind.items.get(added).page() == page);
        law("its parent", behind.items.get(added).parent() == parent);
        law("no kids", behind.items.get(added).kids().isEmpty());
        if (parent >= 0) {
            List<Integer> kids = behind.items.get(parent).kids();
            law("the last kid", kids.get(kids.size() - 1) == added);
        }
        othersStay(added);
    }

    private static void listLaws(int node, int item, int answer) {
        List<Integer> kids = new ArrayList<>(before.items.get(node).kids());
        kids.add(item);
        law("the last kid", kids.equals(behind.items.get(node).kids()));
        law("how many kids", answer == kids.size());
        for (int i = 0; i < before.items.size(); i++) {
            law("parents stay", before.items.get(i).parent() == behind.items.get(i).parent());
            law("values stay", before.items.get(i).values().equals(behind.items.get(i).values()));
            law("counts stay", before.items.get(i).count() == behind.items.get(i).count());
        }
    }

    private static void otherLaws(String name, int answer) {
        law("the order stays", before.order.equals(behind.order));
        law("what was told stays", before.told.equals(behind.told));
        if (name.equals("label")) {
            law("how many ranges", answer == behind.ranges);
            law("items and names stay", before.items.equals(behind.items) && before.names.equals(behind.names));
        } else if (name.equals("name")) {
            law("how many names", answer == behind.nameCount && answer == before.nameCount + 1);
            law("items and labels stay", before.items.equals(behind.items) && before.labels.equals(behind.labels));
        }
    }

    /** What the giver had, the taker has; what it had not may come from new parents. */
    private static void valuesStay(int giver, int taker) {
        for (int key = 0; key < 4; key++) {
            int value = before.items.get(giver).values().get(key);
            law("the value of " + taker + " for " + key,
                value == -1 || value == behind.items.get(taker).values().get(key));
        }
    }

    /** But for one item and its slots, all items, their parents, counts and values are as they were. */
    private static void othersStay(int one) {
        for (int item = 0; item < before.items.size(); item++) {
            State.Item old = before.items.get(item);
            State.Item now = behind.items.get(item);
            law("the count of " + item, old.count() == now.count());
            law("the list of " + item, without(old.kids(), one).equals(without(now.kids(), one)));
            law("the parent of " + item, item == one || old.parent() == now.parent());
            law("the values of " + item, item == one || old.values().equals(now.values()));
        }
        for (int key : before.names.keySet()) {
            law("name " + key, before.names.get(key) == one || before.names.get(key).equals(behind.names.get(key)));
        }
        law("no name more", before.names.keySet().containsAll(behind.names.keySet()));
        law("what was told", before.told.equals(behind.told));
        law("the ranges", before.ranges == behind.ranges);
    }

    private static List<Integer> without(List<Integer> all, int one) {
        List<Integer> rest = new ArrayList<>(all);
        rest.removeIf(each -> each == one);
        return rest;
    }

    private static int timesIn(List<Integer> all, int one) {
        return all.size() - without(all, one).size();
    }
}
