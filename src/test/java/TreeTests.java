/** Promises 1 to 7: a new object and the tree. */
public final class TreeTests extends Checks {
    public static void main(String[] args) {
        newObject();
        addElement();
        addElementRefuses();
        removeElement();
        moveElement();
        moveElementRefuses();
        setClasses();
        setContainer();
        setWindow();
        close("TreeTests");
    }

    /** Selector 0: the only one of its siblings of the classes, by a place, for looking at the order. */
    private static int nth(Cascadum x, int number) {
        int part = x.compound(-1, 0, 0, false);
        x.place(part, 0, number, 0);
        return x.selector(part);
    }

    private static void newObject() {
        Cascadum x = new Cascadum();
        int tag0 = x.selector(x.compound(0, 0, 63, true));
        due("1: the root has the tag 0, no classes and no children", true, () -> x.matches(tag0, 0));
        refused("1: no element but the root", INDEX, () -> x.matches(tag0, 1));
        refused("1: no rules", INDEX, () -> x.setScope(0, -1));
        due("1: nothing is styled", 0, x::styled);
        due("1: the first refresh() styles the root", 1, x::refresh);
        due("1: the window is 1000 wide", 1000, () -> x.width(0));
    }

    private static void addElement() {
        Cascadum x = new Cascadum();
        due("2: the first one is 1", 1, () -> x.addElement(0, 0, 1, 1));
        due("2: the next one is 2", 2, () -> x.addElement(0, 0, 3, 63));
        due("2: a place between", 3, () -> x.addElement(0, 1, 2, 0));
        due("2: a place at the end", 4, () -> x.addElement(0, 3, 0, 0));
        int[] order = {2, 3, 1, 4};
        for (int i = 0; i < order.length; i++) {
            int element = order[i];
            int place = nth(x, i + 1);
            due("2: the order of the children", true, () -> x.matches(place, element));
        }
        int both = x.selector(x.compound(3, 63, 0, false));
        due("2: its tag and classes", true, () -> x.matches(both, 2));
        due("2: not those of another", false, () -> x.matches(both, 1));
        x.refresh();
        x.addElement(4, 0, 0, 0);
        refused("2: it is not styled yet", STATE, () -> x.computed(5, 0));
    }

    private static void addElementRefuses() {
        Cascadum x = new Cascadum();
        refused("2: no such parent", INDEX, () -> x.addElement(1, 0, 0, 0));
        refused("2: a parent below 0", INDEX, () -> x.addElement(-1, 0, 0, 0));
        refused("2: a place behind the end", INDEX, () -> x.addElement(0, 1, 0, 0));
        refused("2: a place below 0", INDEX, () -> x.addElement(0, -1, 0, 0));
        refused("2: the place is looked at first", INDEX, () -> x.addElement(0, 1, 4, 64));
        refused("2: the tag 4", ARGUMENT, () -> x.addElement(0, 0, 4, 0));
        refused("2: the tag -1", ARGUMENT, () -> x.addElement(0, 0, -1, 0));
        refused("2: the classes 64", ARGUMENT, () -> x.addElement(0, 0, 0, 64));
        refused("2: the classes -1", ARGUMENT, () -> x.addElement(0, 0, 0, -1));
        due("2: nothing was made until now", 1, () -> x.addElement(0, 0, 0, 0));
        x.removeElement(1);
        refused("2: a parent that was removed", STATE, () -> x.addElement(1, 0, 0, 0));
        refused("2: the tag is looked at ahead of it", ARGUMENT, () -> x.addElement(1, 0, 9, 0));
        for (int i = 2; i < 30; i++) {
            int want = i;
            due("2: up to 30, removed ones among them", want, () -> x.addElement(0, 0, 0, 0));
        }
        refused("2: 30 were made", STATE, () -> x.addElement(0, 0, 0, 0));
        refused("2: the classes are looked at ahead of it", ARGUMENT, () -> x.addElement(0, 0, 0, 64));
        x.removeElement(29);
        refused("2: a removed one was made, too", STATE, () -> x.addElement(0, 0, 0, 0));
    }

    private static void removeElement() {
        Cascadum x = new Cascadum();
        x.addElement(0, 0, 0, 0);
        x.addElement(1, 0, 0, 1);
        x.addElement(2, 0, 0, 2);
        x.addElement(0, 1, 0, 4);
        int second = nth(x, 2);
        int empty = x.selector(x.compound(-1, 0, 0, true));
        x.refresh();
        due("3: 4 is the second one", true, () -> x.matches(second, 4));
        refused("3: no such element", INDEX, () -> x.removeElement(5));
        refused("3: below 0", INDEX, () -> x.removeElement(-1));
        refused("3: the root", ARGUMENT, () -> x.removeElement(0));
        due("3: with all below it", 2, () -> x.removeElement(2));
        due("3: the parent is without children", true, () -> x.matches(empty, 1));
        refused("3: it was removed", STATE, () -> x.removeElement(2));
        refused("3: with the one above it", STATE, () -> x.removeElement(3));
        refused("3: nothing is told of it", STATE, () -> x.computed(3, 0));
        refused("3: nor of its width", STATE, () -> x.width(2));
        refused("3: nor whether it matches", STATE, () -> x.matches(second, 3));
        due("3: one alone", 1, () -> x.removeElement(1));
        due("3: 4 is now the first one", false, () -> x.matches(second, 4));
        due("3: its numbers are left to no one", 5, () -> x.addElement(0, 0, 0, 0));
        due("3: only the new one is styled", 1, x::refresh);
        due("3: what is gone has no width", 3000L, x::widths);
    }

    private static void moveElement() {
        Cascadum x = new Cascadum();
        x.addElement(0, 0, 0, 0);
        x.addElement(0, 1, 0, 0);
        x.addElement(1, 0, 0, 0);
        x.addElement(1, 1, 0, 0);
        int first = nth(x, 1);
        int second = nth(x, 2);
        due("4: it had this parent", true, () -> x.moveElement(3, 1));
        due("4: it is at the end there", true, () -> x.matches(second, 3));
        due("4: the other one comes earlier", true, () -> x.matches(first, 4));
        due("4: another parent", false, () -> x.moveElement(1, 2));
        due("4: 2 is the first one now", true, () -> x.matches(first, 2));
        int inside = x.selector(x.compound(-1, 0, 0, false));
        for (int i = 0; i < 3; i++) {
            x.join(inside, '>', 0);
        }
        due("4: all below it goes along", true, () -> x.matches(inside, 4));
        due("4: so that 1 is no deeper than 2", false, () -> x.matches(inside, 1));
        due("4: back to the root", false, () -> x.moveElement(4, 0));
        due("4: at its end", true, () -> x.matches(second, 4));
        due("4: 3 is alone", true, () -> x.matches(first, 3));
    }

    private static void moveElementRefuses() {
        Cascadum x = new Cascadum();
        x.addElement(0, 0, 0, 0);
        x.addElement(1, 0, 0, 0);
        x.addElement(2, 0, 0, 0);
        x.addElement(0, 1, 0, 0);
        refused("4: no such element", INDEX, () -> x.moveElement(5, 0));
        refused("4: no such parent", INDEX, () -> x.moveElement(1, 5));
        refused("4: an element below 0", INDEX, () -> x.moveElement(-1, 0));
        refused("4: a parent below 0", INDEX, () -> x.moveElement(1, -1));
        refused("4: the root", IMPOSSIBLE, () -> x.moveElement(0, 4));
        refused("4: into itself", IMPOSSIBLE, () -> x.moveElement(1, 1));
        refused("4: into its child", IMPOSSIBLE, () -> x.moveElement(1, 2));
        refused("4: into what is deeper in it", IMPOSSIBLE, () -> x.moveElement(1, 3));
        x.removeElement(4);
        refused("4: one that was removed", STATE, () -> x.moveElement(4, 0));
        refused("4: to one that was removed", STATE, () -> x.moveElement(1, 4));
        refused("4: this is looked at ahead of the root", STATE, () -> x.moveElement(0, 4));
        due("4: nothing was moved", true, () -> x.moveElement(3, 2));
    }

    private static void setClasses() {
        Cascadum x = new Cascadum();
        x.addElement(0, 0, 0, 5);
        int all = x.selector(x.compound(-1, 63, 0, false));
        due("5: those before", 5, () -> x.setClasses(1, 63));
        due("5: those now", true, () -> x.matches(all, 1));
        due("5: none", 63, () -> x.setClasses(1, 0));
        due("5: the root, too", 0, () -> x.setClasses(0, 1));
        refused("5: no such element", INDEX, () -> x.setClasses(2, 0));
        refused("5: below 0", INDEX, () -> x.setClasses(-1, 64));
        refused("5: the classes 64", ARGUMENT, () -> x.setClasses(1, 64));
        refused("5: the classes -1", ARGUMENT, () -> x.setClasses(1, -1));
        due("5: nothing was changed", 0, () -> x.setClasses(1, 2));
        x.removeElement(1);
        refused("5: the range is looked at ahead", ARGUMENT, () -> x.setClasses(1, 64));
        refused("5: it was removed", STATE, () -> x.setClasses(1, 0));
    }

    private static void setContainer() {
        Cascadum x = new Cascadum();
        x.addElement(0, 0, 0, 0);
        due("6: none is one at first", false, () -> x.setContainer(1, true));
        due("6: it was", true, () -> x.setContainer(1, true));
        due("6: it was until now", true, () -> x.setContainer(1, false));
        due("6: it was not", false, () -> x.setContainer(1, false));
        refused("6: no such element", INDEX, () -> x.setContainer(2, true));
        refused("6: below 0", INDEX, () -> x.setContainer(-1, true));
        x.removeElement(1);
        refused("6: it was removed", STATE, () -> x.setContainer(1, true));
    }

    private static void setWindow() {
        Cascadum x = new Cascadum();
        due("7: 1000 at first", 1000, () -> x.setWindow(0));
        due("7: 0 can be", 0, () -> x.setWindow(5000));
        refused("7: 5001", ARGUMENT, () -> x.setWindow(5001));
        refused("7: -1", ARGUMENT, () -> x.setWindow(-1));
        x.refresh();
        due("7: the root is as wide", 5000, () -> x.width(0));
        due("7: before the call", 5000, () -> x.setWindow(7));
        due("7: as of the last refresh()", 5000, () -> x.width(0));
        due("7: no rule asks for it", 0, x::refresh);
        due("7: the layout is found anew", 7, () -> x.width(0));
    }
}
