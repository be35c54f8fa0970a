import java.util.Arrays;

/** A call of the face, to be made on any object. */
record Call(String name, int... args) {
    int on(PageTree tree) {
        return switch (name + args.length) {
            case "node2" -> tree.node(args[0], args[1]);
            case "page1" -> tree.page(args[0]);
            case "list2" -> tree.list(args[0], args[1]);
            case "inherit3" -> tree.inherit(args[0], args[1], args[2]);
            case "of2" -> tree.of(args[0], args[1]);
            case "pages0" -> tree.pages();
            case "at1" -> tree.at(args[0]);
            case "about2" -> tree.about(args[0], args[1]);
            case "kid2" -> tree.kid(args[0], args[1]);
            case "mend0" -> tree.mend();
            case "told2" -> tree.told(args[0], args[1]);
            case "move2" -> tree.move(args[0], args[1]);
            case "copy1" -> tree.copy(args[0]);
            case "remove1" -> tree.remove(args[0]);
            case "label3" -> tree.label(args[0], args[1], args[2]);
            case "text2" -> tree.text(args[0], args[1]);
            case "name2" -> tree.name(args[0], args[1]);
            case "look1" -> tree.look(args[0]);
            case "balance0" -> tree.balance();
            case "count1" -> tree.count(args[0]);
            default -> throw new IllegalArgumentException("no such call: " + this);
        };
    }

    @Override
    public String toString() {
        String inside = Arrays.toString(args);
        return name + "(" + inside.substring(1, inside.length() - 1) + ")";
    }
}
