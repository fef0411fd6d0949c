/**
 * The bounds of each promise: the last call that is taken and the first one that is refused,
 * and which exception comes first where several apply.
 */
public final class BoundTests extends Checks {
    interface Maker {
        Cascadum make();
    }

    interface Ask {
        Object of(Cascadum x, int number);
    }

    private static final int LEAST = Integer.MIN_VALUE;
    private static final int MOST = Integer.MAX_VALUE;

    public static void main(String[] args) {
        newObject();
        addElement();
        addElementLimit();
        addElementOrder();
        removeElement();
        moveElement();
        moveElementOrder();
        setClasses();
        setContainer();
        setWindow();
        compound();
        place();
        placeInSelector();
        below();
        selector();
        join();
        joinLimit();
        joinOrder();
        addLayer();
        addRule();
        alsoFor();
        setScope();
        setCondition();
        value();
        valueAsPart();
        valueOrder();
        declare();
        declareBox();
        declareBoxValues();
        dropDeclaration();
        asksOfStyled();
        asksOrder();
        candidateAt();
        matchesAndWeight();
        counters();
        nothingToDivideBy();
        close("BoundTests");
    }

    /** The numbers from low to high are taken at both ends, and those just outside and far outside are refused. */
    private static void range(String what, int low, int high, Class<?> kind, Maker maker, Ask ask) {
        taken(what, maker, ask, low, high);
        left(what, kind, maker, ask, low - 1, high + 1, LEAST, MOST);
    }

    private static void taken(String what, Maker maker, Ask ask, int... numbers) {
        for (int number : numbers) {
            Cascadum x = maker.make();
            String got = answer(() -> ask.of(x, number));
            expect(what + " " + number + " is taken", "taken", got.contains("throws") ? got : "taken");
        }
    }

    private static void left(String what, Class<?> kind, Maker maker, Ask ask, int... numbers) {
        for (int number : numbers) {
            Cascadum x = maker.make();
            refused(what + " " + number, kind, () -> ask.of(x, number));
        }
    }

    private static int bare(Cascadum x) {
        return x.compound(-1, 0, 0, false);
    }

    private static int all(Cascadum x) {
        return x.selector(bare(x));
    }

    private static int n(Cascadum x, int number) {
        return x.value('n', number, 0);
    }

    /** The root, 1 and 2 below it, 3 below 1. */
    private static Cascadum four() {
        Cascadum x = new Cascadum();
        x.addElement(0, 0, 0, 0);
        x.addElement(0, 1, 0, 0);
        x.addElement(1, 0, 0, 0);
        return x;
    }

    /** Each one below the one ahead of it, as many as can be. */
    private static Cascadum thirty() {
        Cascadum x = new Cascadum();
        for (int i = 0; i < 29; i++) {
            x.addElement(i, 0, 0, 0);
        }
        return x;
    }

    private static Cascadum compounds() {
        Cascadum x = new Cascadum();
        bare(x);
        bare(x);
        return x;
    }

    /** As four(), with two compounds, of which the first one is in two selectors, and a rule for all. */
    private static Cascadum ruled() {
        Cascadum x = four();
        all(x);
        x.selector(0);
        bare(x);
        x.addRule(2, -1, 0);
        return x;
    }

    /** As ruled(), with three values and a layer of each origin, and styled. */
    private static Cascadum styled() {
        Cascadum x = ruled();
        for (int i = 0; i < 3; i++) {
            n(x, i);
            x.addLayer(i, -1);
        }
        x.refresh();
        return x;
    }

    private static void newObject() {
        Cascadum x = new Cascadum();
        refused("1: the root is the only element", INDEX, () -> x.setClasses(1, 0));
        refused("1: there is no compound", INDEX, () -> x.selector(0));
        refused("1: there is no selector", INDEX, () -> x.weight(0));
        refused("1: there is no layer", INDEX, () -> x.addLayer(0, 0));
        refused("1: there is no rule", INDEX, () -> x.dropDeclaration(0, 0));
        refused("1: there is no value", INDEX, () -> x.value('v', 5, 0));
        due("1: the first compound", 0, () -> x.compound(0, 0, 63, true));
        due("1: the first selector", 0, () -> x.selector(0));
        due("1: the root has the tag 0, none of the classes 0 to 5, and no children", true, () -> x.matches(0, 0));
        due("1: the first element is 1", 1, () -> x.addElement(0, 0, 0, 0));
        due("1: no classes", 0, () -> x.setClasses(0, 0));
        due("1: no container", false, () -> x.setContainer(0, false));
        due("1: the window is 1000 wide", 1000, () -> x.setWindow(1000));
        due("1: the first layer", 0, () -> x.addLayer(0, -1));
        due("1: the first rule", 0, () -> x.addRule(0, -1, 0));
        due("1: the first value", 0, () -> n(x, 0));
        due("1: none is styled", 0, x::styled);
        due("1: none is shared", 0, x::shared);
        due("1: no width", 0L, x::widths);
    }

    private static void addElement() {
        range("2: the parent", 0, 3, INDEX, BoundTests::four, (x, i) -> x.addElement(i, 0, 0, 0));
        range("2: the place among two", 0, 2, INDEX, BoundTests::four, (x, i) -> x.addElement(0, i, 0, 0));
        range("2: the place among one", 0, 1, INDEX, BoundTests::four, (x, i) -> x.addElement(1, i, 0, 0));
        range("2: the place among none", 0, 0, INDEX, BoundTests::four, (x, i) -> x.addElement(3, i, 0, 0));
        range("2: the tag", 0, 3, ARGUMENT, BoundTests::four, (x, i) -> x.addElement(0, 0, i, 0));
        range("2: the classes", 0, 63, ARGUMENT, BoundTests::four, (x, i) -> x.addElement(0, 0, 0, i));
        Cascadum x = four();
        x.removeElement(2);
        refused("2: a child that was removed has no place", INDEX, () -> x.addElement(0, 2, 0, 0));
        due("2: one is left", 4, () -> x.addElement(0, 1, 0, 0));
        x.moveElement(3, 0);
        refused("2: one that has moved away has none either", INDEX, () -> x.addElement(1, 1, 0, 0));
        due("2: it has one where it has gone", 5, () -> x.addElement(0, 3, 0, 0));
        x.removeElement(1);
        refused("2: the parent was removed", STATE, () -> x.addElement(1, 0, 0, 0));
        Cascadum y = four();
        y.removeElement(1);
        refused("2: the parent was removed with the one above it", STATE, () -> y.addElement(3, 0, 0, 0));
    }

    private static void addElementLimit() {
        Cascadum x = new Cascadum();
        for (int i = 1; i <= 28; i++) {
            x.addElement(0, 0, 0, 0);
        }
        due("2: the 30th one, the root counted", 29, () -> x.addElement(0, 28, 3, 63));
        refused("2: 30 were made", STATE, () -> x.addElement(0, 0, 0, 0));
        due("2: the last one is there", 63, () -> x.setClasses(29, 63));
        refused("2: the refused one is not", INDEX, () -> x.setClasses(30, 0));
        x.removeElement(1);
        refused("2: 30 were made, though not all are there", STATE, () -> x.addElement(0, 0, 0, 0));
        due("2: 29 are styled", 29, x::refresh);
        Cascadum y = thirty();
        refused("2: also at the end of a chain", STATE, () -> y.addElement(29, 0, 0, 0));
        due("2: which is 30 long", 30, y::refresh);
    }

    private static void addElementOrder() {
        refused("2: no parent, no tag", INDEX, () -> four().addElement(4, 0, 4, 0));
        refused("2: no place, no classes", INDEX, () -> four().addElement(3, 1, 0, 64));
        refused("2: no parent, 30 were made", INDEX, () -> thirty().addElement(30, 0, 0, 0));
        refused("2: no place, 30 were made", INDEX, () -> thirty().addElement(29, 1, 0, 0));
        refused("2: no tag, 30 were made", ARGUMENT, () -> thirty().addElement(29, 0, 4, 0));
        refused("2: no classes, 30 were made", ARGUMENT, () -> thirty().addElement(29, 0, 0, -1));
        refused("2: all three", INDEX, () -> thirty().addElement(30, 0, -1, 64));
        Cascadum x = four();
        x.removeElement(2);
        refused("2: no place, the parent was removed", INDEX, () -> x.addElement(2, 1, 0, 0));
        refused("2: a place below 0, the parent was removed", INDEX, () -> x.addElement(2, -1, 0, 0));
        refused("2: no tag, the parent was removed", ARGUMENT, () -> x.addElement(2, 0, -1, 0));
        refused("2: no classes, the parent was removed", ARGUMENT, () -> x.addElement(2, 0, 0, 64));
    }

    private static void removeElement() {
        taken("3: the element", BoundTests::four, Cascadum::removeElement, 1, 3);
        left("3: the element", INDEX, BoundTests::four, Cascadum::removeElement, -1, 4, LEAST, MOST);
        refused("3: the root", ARGUMENT, () -> four().removeElement(0));
        refused("3: the root alone", ARGUMENT, () -> new Cascadum().removeElement(0));
        Cascadum x = thirty();
        due("3: one without children", 1, () -> x.removeElement(29));
        refused("3: it was removed", STATE, () -> x.removeElement(29));
        refused("3: no such element", INDEX, () -> x.removeElement(30));
        due("3: all but the root, without the one that was removed", 28, () -> x.removeElement(1));
        refused("3: the last one of them was removed, too", STATE, () -> x.removeElement(28));
        due("3: the root is left", 1, x::refresh);
        due("3: as many as can be", 29, () -> thirty().removeElement(1));
    }

    private static void moveElement() {
        taken("4: the element", BoundTests::four, (x, i) -> x.moveElement(i, 0), 1, 3);
        left("4: the element", INDEX, BoundTests::four, (x, i) -> x.moveElement(i, 0), -1, 4, LEAST, MOST);
        range("4: the parent", 0, 3, INDEX, BoundTests::four, (x, i) -> x.moveElement(2, i));
        refused("4: the root", IMPOSSIBLE, () -> four().moveElement(0, 1));
        refused("4: the root into itself", IMPOSSIBLE, () -> four().moveElement(0, 0));
        refused("4: into itself", IMPOSSIBLE, () -> four().moveElement(3, 3));
        refused("4: one step below", IMPOSSIBLE, () -> four().moveElement(1, 3));
        refused("4: 28 steps below", IMPOSSIBLE, () -> thirty().moveElement(1, 29));
        due("4: the last one of a chain up to the root", false, () -> thirty().moveElement(29, 0));
        due("4: a step up", false, () -> four().moveElement(3, 0));
        due("4: to its parent", true, () -> four().moveElement(3, 1));
        due("4: beside it", false, () -> four().moveElement(1, 2));
        Cascadum x = four();
        x.moveElement(3, 0);
        due("4: what is no longer below it", false, () -> x.moveElement(1, 3));
        refused("4: is not free to be above it now", IMPOSSIBLE, () -> x.moveElement(3, 1));
    }

    private static void moveElementOrder() {
        Cascadum x = four();
        x.removeElement(1);
        refused("4: it was removed", STATE, () -> x.moveElement(1, 0));
        refused("4: the parent was removed", STATE, () -> x.moveElement(2, 1));
        refused("4: the parent was removed with the one above it", STATE, () -> x.moveElement(2, 3));
        refused("4: no element, the parent was removed", INDEX, () -> x.moveElement(4, 1));
        refused("4: no parent, the element was removed", INDEX, () -> x.moveElement(1, 4));
        refused("4: no parent, the root", INDEX, () -> x.moveElement(0, 4));
        refused("4: no parent, below 0, the root", INDEX, () -> x.moveElement(0, -1));
        refused("4: the root, the parent was removed", STATE, () -> x.moveElement(0, 1));
        refused("4: into itself, it was removed", STATE, () -> x.moveElement(1, 1));
        refused("4: into what is below it, both were removed", STATE, () -> x.moveElement(1, 3));
    }

    private static void setClasses() {
        range("5: the element", 0, 3, INDEX, BoundTests::four, (x, i) -> x.setClasses(i, 0));
        range("5: the classes", 0, 63, ARGUMENT, BoundTests::four, (x, i) -> x.setClasses(3, i));
        refused("5: no element, no classes", INDEX, () -> four().setClasses(4, 64));
        Cascadum x = four();
        due("5: none before", 0, () -> x.setClasses(3, 63));
        refused("5: 64", ARGUMENT, () -> x.setClasses(3, 64));
        due("5: all before", 63, () -> x.setClasses(3, 0));
        x.removeElement(3);
        refused("5: it was removed", STATE, () -> x.setClasses(3, 0));
        refused("5: no classes, it was removed", ARGUMENT, () -> x.setClasses(3, -1));
        due("5: the last one of 30", 0, () -> thirty().setClasses(29, 1));
        refused("5: behind it", INDEX, () -> thirty().setClasses(30, 1));
    }

    private static void setContainer() {
        range("6: the element", 0, 3, INDEX, BoundTests::four, (x, i) -> x.setContainer(i, true));
        Cascadum x = four();
        x.setContainer(3, true);
        x.removeElement(1);
        refused("6: it was removed", STATE, () -> x.setContainer(3, false));
        refused("6: so was the one above it", STATE, () -> x.setContainer(1, true));
        due("6: the last one of 30", false, () -> thirty().setContainer(29, true));
        refused("6: behind it", INDEX, () -> thirty().setContainer(30, true));
    }

    private static void setWindow() {
        range("7: the width", 0, 5000, ARGUMENT, Cascadum::new, Cascadum::setWindow);
        Cascadum x = new Cascadum();
        due("7: 1000 at first", 1000, () -> x.setWindow(5000));
        refused("7: 5001", ARGUMENT, () -> x.setWindow(5001));
        due("7: it stays at 5000", 5000, () -> x.setWindow(0));
        refused("7: -1", ARGUMENT, () -> x.setWindow(-1));
        x.refresh();
        due("7: it stays at 0", 0, () -> x.width(0));
    }

    private static void compound() {
        range("8: the tag, -1 for any", -1, 3, ARGUMENT, Cascadum::new, (x, i) -> x.compound(i, 0, 0, false));
        range("8: the classes", 0, 63, ARGUMENT, Cascadum::new, (x, i) -> x.compound(0, i, 0, false));
        range("8: without", 0, 63, ARGUMENT, Cascadum::new, (x, i) -> x.compound(0, 0, i, false));
        Cascadum x = new Cascadum();
        for (int i = 0; i < 59; i++) {
            bare(x);
        }
        due("8: the 60th one", 59, () -> x.compound(3, 63, 63, true));
        refused("8: there are 60", STATE, () -> bare(x));
        refused("8: no tag, there are 60", ARGUMENT, () -> x.compound(-2, 0, 0, false));
        refused("8: no classes, there are 60", ARGUMENT, () -> x.compound(0, 64, 0, false));
        refused("8: without none, there are 60", ARGUMENT, () -> x.compound(0, 0, -1, false));
        due("8: the last one is there", 0, () -> x.below(59, 0));
        refused("8: the refused one is not", INDEX, () -> x.below(60, 0));
    }

    private static void place() {
        range("9: the compound", 0, 1, INDEX, BoundTests::compounds, (x, i) -> x.place(i, 0, 1, 0));
        range("9: the step", 0, 5, ARGUMENT, BoundTests::ruled, (x, i) -> x.place(1, i, 1, 0));
        range("9: the first one", 1, 9, ARGUMENT, BoundTests::ruled, (x, i) -> x.place(1, 0, i, 0));
        range("9: the classes", 0, 63, ARGUMENT, BoundTests::ruled, (x, i) -> x.place(1, 0, 1, i));
        refused("9: no compound, no step", INDEX, () -> ruled().place(2, 6, 1, 0));
        refused("9: no compound, no first one", INDEX, () -> ruled().place(2, 0, 0, 0));
        refused("9: no compound, no classes", INDEX, () -> ruled().place(-1, 0, 1, 64));
        refused("9: no step, in a selector", ARGUMENT, () -> ruled().place(0, -1, 1, 0));
        refused("9: no first one, in a selector", ARGUMENT, () -> ruled().place(0, 0, 10, 0));
        refused("9: no classes, in a selector", ARGUMENT, () -> ruled().place(0, 0, 1, -1));
        Cascadum x = ruled();
        due("9: it asked for none", false, () -> x.place(1, 0, 1, 0));
        due("9: it asked for one", true, () -> x.place(1, 5, 9, 63));
        refused("9: the first one 0", ARGUMENT, () -> x.place(1, 0, 0, 0));
        due("9: it asks for the one before", 70, () -> x.weight(x.selector(1)));
    }

    private static void placeInSelector() {
        Cascadum x = new Cascadum();
        int first = bare(x);
        int second = bare(x);
        int third = bare(x);
        due("9: it is in none", false, () -> x.place(first, 0, 1, 0));
        x.selector(first);
        refused("9: it is in a selector", STATE, () -> x.place(first, 0, 1, 0));
        due("9: another one is in none", false, () -> x.place(second, 0, 1, 0));
        x.join(0, ' ', second);
        refused("9: it is joined to one", STATE, () -> x.place(second, 0, 1, 0));
        due("9: the third one is in none", false, () -> x.place(third, 0, 1, 0));
        refused("9: a selector that is refused", INDEX, () -> x.join(1, ' ', third));
        refused("9: a way that is refused", ARGUMENT, () -> x.join(0, 'v', third));
        x.join(0, ' ', second);
        x.join(0, ' ', second);
        refused("9: a fifth compound that is refused", STATE, () -> x.join(0, ' ', third));
        for (int i = 1; i < 40; i++) {
            x.selector(first);
        }
        refused("9: a 41st selector that is refused", STATE, () -> x.selector(third));
        due("9: it is in none all the same", true, () -> x.place(third, 0, 1, 0));
        due("10: nor for this", 0, () -> x.below(third, 1));
    }

    private static void below() {
        range("10: the compound", 0, 1, INDEX, BoundTests::compounds, (x, i) -> x.below(i, 0));
        range("10: the classes", 0, 63, ARGUMENT, BoundTests::ruled, (x, i) -> x.below(1, i));
        refused("10: no compound, no classes", INDEX, () -> ruled().below(2, 64));
        refused("10: it is in a selector", STATE, () -> ruled().below(0, 1));
        refused("10: not to ask, in a selector", STATE, () -> ruled().below(0, 0));
        refused("10: no classes, in a selector", ARGUMENT, () -> ruled().below(0, -1));
        Cascadum x = ruled();
        due("10: none before", 0, () -> x.below(1, 63));
        refused("10: 64", ARGUMENT, () -> x.below(1, 64));
        due("10: all before", 63, () -> x.below(1, 0));
        refused("10: -1", ARGUMENT, () -> x.below(1, -1));
        due("10: 0 is not to ask", 0, () -> x.weight(x.selector(1)));
        x.selector(1);
        refused("10: now it is in one", STATE, () -> x.below(1, 0));
    }

    private static void selector() {
        range("11: the compound", 0, 1, INDEX, BoundTests::ruled, Cascadum::selector);
        Cascadum x = new Cascadum();
        bare(x);
        for (int i = 0; i < 39; i++) {
            x.selector(0);
        }
        due("11: the 40th one", 39, () -> x.selector(0));
        refused("11: there are 40", STATE, () -> x.selector(0));
        refused("11: no compound, there are 40", INDEX, () -> x.selector(1));
        refused("11: below 0, there are 40", INDEX, () -> x.selector(-1));
        due("11: the last one is there", 0, () -> x.weight(39));
        refused("11: the refused one is not", INDEX, () -> x.weight(40));
    }

    private static void join() {
        Maker free = () -> {
            Cascadum x = four();
            all(x);
            all(x);
            return x;
        };
        range("12: the selector", 0, 1, INDEX, free, (x, i) -> x.join(i, ' ', 0));
        range("12: the compound", 0, 1, INDEX, free, (x, i) -> x.join(0, ' ', i));
        for (char by = 0; by < 260; by++) {
            char way = by;
            if (" >+~".indexOf(by) >= 0) {
                due("12: by '" + by + "'", 2, () -> free.make().join(0, way, 0));
            } else {
                refused("12: by the character " + (int) by, ARGUMENT, () -> free.make().join(0, way, 0));
            }
        }
        refused("12: by the last character", ARGUMENT, () -> free.make().join(0, Character.MAX_VALUE, 0));
    }

    private static void joinLimit() {
        Cascadum x = four();
        all(x);
        due("12: two", 2, () -> x.join(0, '>', 0));
        due("12: three", 3, () -> x.join(0, '>', 0));
        due("12: four", 4, () -> x.join(0, '>', 0));
        refused("12: it has 4", STATE, () -> x.join(0, '>', 0));
        int one = all(x);
        x.addRule(2, -1, one);
        refused("12: it is in a rule", STATE, () -> x.join(one, '>', 0));
        int two = all(x);
        x.alsoFor(0, two);
        refused("12: it is in a rule that is also for it", STATE, () -> x.join(two, '>', 0));
        int three = all(x);
        refused("12: a rule that is refused, by its layer", INDEX, () -> x.addRule(2, 0, three));
        refused("12: by its origin", ARGUMENT, () -> x.addRule(3, -1, three));
        x.alsoFor(0, two);
        refused("12: a fourth selector that is refused", STATE, () -> x.alsoFor(0, three));
        refused("12: no rule for it", INDEX, () -> x.alsoFor(1, three));
        for (int i = 1; i < 16; i++) {
            x.addRule(2, -1, one);
        }
        refused("12: a 17th rule that is refused", STATE, () -> x.addRule(2, -1, three));
        due("12: it is in no rule", 2, () -> x.join(three, '>', 0));
    }

    private static void joinOrder() {
        Maker full = () -> {
            Cascadum x = ruled();
            int row = x.selector(1);
            for (int i = 0; i < 3; i++) {
                x.join(row, ' ', 1);
            }
            return x;
        };
        refused("12: no selector, no way", INDEX, () -> full.make().join(3, 'x', 0));
        refused("12: no compound, no way", INDEX, () -> full.make().join(1, 'x', 2));
        refused("12: no compound, it has 4", INDEX, () -> full.make().join(2, ' ', 2));
        refused("12: no compound, it is in a rule", INDEX, () -> full.make().join(0, ' ', -1));
        refused("12: no way, it has 4", ARGUMENT, () -> full.make().join(2, 'x', 1));
        refused("12: no way, it is in a rule", ARGUMENT, () -> full.make().join(0, 'x', 1));
        refused("12: it has 4", STATE, () -> full.make().join(2, ' ', 1));
        refused("12: it is in a rule", STATE, () -> full.make().join(0, ' ', 1));
        due("12: neither", 2, () -> full.make().join(1, ' ', 1));
    }

    private static void addLayer() {
        range("13: the origin", 0, 2, ARGUMENT, Cascadum::new, (x, i) -> x.addLayer(i, -1));
        range("13: the layer, -1 for none", -1, 1, INDEX, () -> {
            Cascadum x = new Cascadum();
            x.addLayer(1, -1);
            x.addLayer(1, -1);
            return x;
        }, (x, i) -> x.addLayer(1, i));
        range("13: -1 alone if there is none", -1, -1, INDEX, Cascadum::new, (x, i) -> x.addLayer(0, i));
        for (int origin = 0; origin < 3; origin++) {
            for (int outer = 0; outer < 3; outer++) {
                Cascadum x = styled();
                int one = origin;
                int other = outer;
                if (one == other) {
                    due("13: within one of this origin", 3, () -> x.addLayer(one, other));
                } else {
                    refused("13: within one of another origin", ARGUMENT, () -> x.addLayer(one, other));
                }
            }
        }
        Cascadum x = new Cascadum();
        for (int i = 0; i < 7; i++) {
            x.addLayer(1, i - 1);
        }
        refused("13: no layer, no origin", INDEX, () -> x.addLayer(3, 7));
        refused("13: no origin, within one", ARGUMENT, () -> x.addLayer(-1, 6));
        due("13: the 8th one", 7, () -> x.addLayer(1, 6));
        refused("13: there are 8", STATE, () -> x.addLayer(1, -1));
        refused("13: there are 8, also within the last one", STATE, () -> x.addLayer(1, 7));
        refused("13: no layer, there are 8", INDEX, () -> x.addLayer(1, 8));
        refused("13: no layer, no origin, there are 8", INDEX, () -> x.addLayer(3, -2));
        refused("13: no origin, there are 8", ARGUMENT, () -> x.addLayer(3, -1));
        refused("13: another origin, there are 8", ARGUMENT, () -> x.addLayer(2, 7));
    }

    private static void addRule() {
        range("14: the origin", 0, 2, ARGUMENT, BoundTests::styled, (x, i) -> x.addRule(i, -1, 0));
        range("14: the selector", 0, 1, INDEX, BoundTests::styled, (x, i) -> x.addRule(0, -1, i));
        range("14: the layer, -1 for none", -1, 1, INDEX, () -> {
            Cascadum x = ruled();
            x.addLayer(1, -1);
            x.addLayer(1, 0);
            return x;
        }, (x, i) -> x.addRule(1, i, 0));
        for (int i = 0; i < 9; i++) {
            int origin = i / 3;
            int layer = i % 3;
            if (origin == layer) {
                due("14: a layer of this origin", 1, () -> styled().addRule(origin, layer, 0));
            } else {
                refused("14: a layer of another origin", ARGUMENT, () -> styled().addRule(origin, layer, 0));
            }
        }
        refused("14: no layer, no origin", INDEX, () -> styled().addRule(3, 3, 0));
        refused("14: no selector, no origin", INDEX, () -> styled().addRule(-1, -1, 2));
        refused("14: no selector, a layer of another origin", INDEX, () -> styled().addRule(0, 2, 2));
        refused("14: no origin, with a layer", ARGUMENT, () -> styled().addRule(3, 2, 0));
        Cascadum x = styled();
        for (int i = 1; i < 15; i++) {
            x.addRule(0, 0, 0);
        }
        due("14: the 16th one", 15, () -> x.addRule(2, 2, 1));
        refused("14: there are 16", STATE, () -> x.addRule(0, 0, 0));
        refused("14: no layer, there are 16", INDEX, () -> x.addRule(0, 3, 0));
        refused("14: no selector, there are 16", INDEX, () -> x.addRule(0, -1, 2));
        refused("14: no origin, there are 16", ARGUMENT, () -> x.addRule(3, -1, 0));
        refused("14: another origin, there are 16", ARGUMENT, () -> x.addRule(1, 2, 0));
        due("14: the last one is there", -1, () -> x.setScope(15, 0));
        refused("14: the refused one is not", INDEX, () -> x.setScope(16, 0));
    }

    private static void alsoFor() {
        range("15: the rule", 0, 1, INDEX, () -> {
            Cascadum x = ruled();
            x.addRule(0, -1, 0);
            return x;
        }, (x, i) -> x.alsoFor(i, 0));
        range("15: the selector", 0, 1, INDEX, BoundTests::ruled, (x, i) -> x.alsoFor(0, i));
        Cascadum x = ruled();
        due("15: two", 2, () -> x.alsoFor(0, 1));
        due("15: three", 3, () -> x.alsoFor(0, 0));
        refused("15: it has 3", STATE, () -> x.alsoFor(0, 1));
        refused("15: no selector, it has 3", INDEX, () -> x.alsoFor(0, 2));
        refused("15: below 0, it has 3", INDEX, () -> x.alsoFor(0, -1));
        x.addRule(0, -1, 0);
        due("15: another rule has 1", 2, () -> x.alsoFor(1, 0));
    }

    private static void setScope() {
        range("16: the rule", 0, 0, INDEX, BoundTests::ruled, (x, i) -> x.setScope(i, 0));
        range("16: the class, -1 for none", -1, 5, ARGUMENT, BoundTests::ruled, (x, i) -> x.setScope(0, i));
        refused("16: no rule, no class", INDEX, () -> ruled().setScope(1, 6));
        refused("16: no rule below 0, no class", INDEX, () -> ruled().setScope(-1, -2));
        Cascadum x = ruled();
        due("16: none before", -1, () -> x.setScope(0, 5));
        refused("16: 6", ARGUMENT, () -> x.setScope(0, 6));
        due("16: 5 before", 5, () -> x.setScope(0, -1));
        refused("16: -2", ARGUMENT, () -> x.setScope(0, -2));
        due("16: none before again", -1, () -> x.setScope(0, 0));
    }

    private static void setCondition() {
        range("17: the rule", 0, 0, INDEX, BoundTests::ruled, (x, i) -> x.setCondition(i, 0));
        range("17: the width, -1 for none", -1, 5000, ARGUMENT, BoundTests::ruled, (x, i) -> x.setCondition(0, i));
        refused("17: no rule, no width", INDEX, () -> ruled().setCondition(1, 5001));
        refused("17: no rule below 0, no width", INDEX, () -> ruled().setCondition(-1, -2));
        Cascadum x = ruled();
        due("17: none before", -1, () -> x.setCondition(0, 5000));
        refused("17: 5001", ARGUMENT, () -> x.setCondition(0, 5001));
        due("17: 5000 before", 5000, () -> x.setCondition(0, -1));
        refused("17: -2", ARGUMENT, () -> x.setCondition(0, -2));
        due("17: none before again", -1, () -> x.setCondition(0, 0));
    }

    private static void value() {
        for (char kind : "ne%".toCharArray()) {
            range("18: the number for " + kind, -9999, 9999, ARGUMENT, Cascadum::new, (x, i) -> x.value(kind, i, 0));
        }
        range("18: the property for v", 5, 7, ARGUMENT, Cascadum::new, (x, i) -> x.value('v', i, -1));
        range("18: the other value for v", -1, 2, INDEX, BoundTests::styled, (x, i) -> x.value('v', 5, i));
        range("18: the first part of a sum", 0, 2, INDEX, BoundTests::styled, (x, i) -> x.value('+', i, 0));
        range("18: the second part of a sum", 0, 2, INDEX, BoundTests::styled, (x, i) -> x.value('+', 0, i));
        for (char kind : "iourl".toCharArray()) {
            taken("18: of no meaning for " + kind, Cascadum::new, (x, i) -> x.value(kind, i, i), LEAST, -1, MOST);
        }
        for (char kind : "ne%".toCharArray()) {
            due("18: b is of no meaning for " + kind, 0, () -> new Cascadum().value(kind, 0, LEAST));
            due("18: nor is it above for " + kind, 0, () -> new Cascadum().value(kind, 0, MOST));
        }
        for (char kind = 0; kind < 260; kind++) {
            char one = kind;
            if ("ne%+viourl".indexOf(kind) < 0) {
                refused("18: no such kind as " + (int) kind, ARGUMENT, () -> styled().value(one, 0, 0));
            }
        }
        Cascadum x = new Cascadum();
        for (int i = 0; i < 79; i++) {
            n(x, i);
        }
        due("18: the 80th one", 79, () -> x.value('+', 77, 78));
        refused("18: there are 80", STATE, () -> n(x, 0));
        refused("18: there are 80, with parts", STATE, () -> x.value('+', 79, 0));
        x.addRule(0, -1, all(x));
        due("18: the last one is there", 1, () -> x.declare(0, 0, 79, false));
        refused("18: the refused one is not", INDEX, () -> x.declare(0, 0, 80, false));
    }

    /** Values 0 to 9, of 1 to 10 parts, then one of 11 and one of 12, and behind them those that can be no parts. */
    private static Cascadum parts() {
        Cascadum x = new Cascadum();
        n(x, 1);
        for (int i = 0; i < 11; i++) {
            x.value('v', 5 + i % 3, i);
        }
        for (char kind : "iourl".toCharArray()) {
            x.value(kind, 0, 0);
        }
        return x;
    }

    private static void valueAsPart() {
        due("18: 12 parts, by v", 17, () -> parts().value('v', 5, 10));
        refused("18: 13 parts, by v", IMPOSSIBLE, () -> parts().value('v', 5, 11));
        due("18: 12 parts, by a sum with one", 17, () -> parts().value('+', 0, 9));
        refused("18: 13 parts, by a sum with one", IMPOSSIBLE, () -> parts().value('+', 0, 10));
        due("18: 12 parts, one behind", 17, () -> parts().value('+', 9, 0));
        refused("18: 13 parts, one behind", IMPOSSIBLE, () -> parts().value('+', 10, 0));
        due("18: 5 and 6 and itself", 17, () -> parts().value('+', 4, 5));
        refused("18: 6 and 6 and itself", IMPOSSIBLE, () -> parts().value('+', 5, 5));
        refused("18: a value counts as often as it is a part", IMPOSSIBLE, () -> parts().value('+', 11, 11));
        for (int bad = 12; bad < 17; bad++) {
            int part = bad;
            refused("18: no first part of a sum " + bad, IMPOSSIBLE, () -> parts().value('+', part, 0));
            refused("18: no second part of a sum " + bad, IMPOSSIBLE, () -> parts().value('+', 0, part));
            refused("18: no other value " + bad, IMPOSSIBLE, () -> parts().value('v', 5, part));
        }
        partsOfSums();
        Cascadum x = new Cascadum();
        int number = n(x, 1);
        int[] good = {number, x.value('e', 1, 0), x.value('%', 1, 0), x.value('v', 5, -1), x.value('+', 0, 0)};
        for (int part : good) {
            due("18: it can be a first part", true, () -> x.value('+', part, number) > part);
            due("18: it can be a second part", true, () -> x.value('+', number, part) > part);
            due("18: it can be another value", true, () -> x.value('v', 7, part) > part);
        }
    }

    private static void partsOfSums() {
        Cascadum x = new Cascadum();
        int one = n(x, 1);
        int three = x.value('+', one, one);
        int five = x.value('+', three, one);
        int six = x.value('v', 6, five);
        due("18: 5 parts, 6 parts and the sum itself", 4, () -> x.value('+', five, six));
        due("18: the other way round", 5, () -> x.value('+', six, five));
        refused("18: 6 parts, 6 parts and the sum itself", IMPOSSIBLE, () -> x.value('+', six, six));
        refused("18: one behind a sum of 12", IMPOSSIBLE, () -> x.value('+', 4, one));
        refused("18: a sum of 12 as another value", IMPOSSIBLE, () -> x.value('v', 5, 5));
        int seven = x.value('+', three, three);
        int eleven = x.value('+', seven, three);
        due("18: a sum of 11 as another value", 8, () -> x.value('v', 5, eleven));
        refused("18: a sum of 11 and one", IMPOSSIBLE, () -> x.value('+', eleven, one));
        int alone = x.value('v', 5, -1);
        due("18: a 'v' without another value is 1 part", 10, () -> x.value('+', alone, six));
        due("18: nothing that was refused was made", 11, () -> n(x, 1));
    }

    private static void valueOrder() {
        refused("18: no property, no value", ARGUMENT, () -> parts().value('v', 4, 17));
        refused("18: no property, no part", ARGUMENT, () -> parts().value('v', 8, 12));
        refused("18: no property, 13 parts", ARGUMENT, () -> parts().value('v', 8, 11));
        refused("18: no kind, no value", ARGUMENT, () -> parts().value('V', 5, 17));
        refused("18: no first value, no second part", INDEX, () -> parts().value('+', 17, 12));
        refused("18: no first part, no second value", INDEX, () -> parts().value('+', 12, -1));
        refused("18: 13 parts, no second value", INDEX, () -> parts().value('+', 11, 17));
        Cascadum x = parts();
        while (n(x, 0) < 79) {
            continue;
        }
        refused("18: no kind, there are 80", ARGUMENT, () -> x.value('x', 0, 0));
        refused("18: no number, there are 80", ARGUMENT, () -> x.value('n', 10000, 0));
        refused("18: no property, there are 80", ARGUMENT, () -> x.value('v', 4, -1));
        refused("18: no value, there are 80", INDEX, () -> x.value('+', 80, 0));
        refused("18: no other value, there are 80", INDEX, () -> x.value('v', 5, 80));
        refused("18: no part, there are 80", IMPOSSIBLE, () -> x.value('v', 5, 12));
        refused("18: 13 parts, there are 80", IMPOSSIBLE, () -> x.value('+', 5, 5));
        refused("18: there are 80", STATE, () -> x.value('+', 0, 0));
        refused("18: there are 80, for one without parts", STATE, () -> x.value('i', 0, 0));
        refused("18: there are 80, for a 'v' without another value", STATE, () -> x.value('v', 5, -1));
    }

    private static void declare() {
        range("19: the rule", 0, 0, INDEX, BoundTests::styled, (x, i) -> x.declare(i, 0, 0, false));
        range("19: the property", 0, 9, ARGUMENT, BoundTests::styled, (x, i) -> x.declare(0, i, 0, false));
        range("19: the value", 0, 2, INDEX, BoundTests::styled, (x, i) -> x.declare(0, 0, i, false));
        refused("19: no rule, no property", INDEX, () -> styled().declare(1, 10, 0, false));
        refused("19: no value, no property", INDEX, () -> styled().declare(0, -1, 3, false));
        Cascadum x = styled();
        for (int i = 1; i <= 6; i++) {
            int want = i;
            due("19: it has " + i, want, () -> x.declare(0, 0, 0, want % 2 == 0));
        }
        refused("19: it has 6", STATE, () -> x.declare(0, 0, 0, false));
        refused("19: no value, it has 6", INDEX, () -> x.declare(0, 0, 3, false));
        refused("19: no property, it has 6", ARGUMENT, () -> x.declare(0, 10, 0, false));
        refused("19: no value, no property, it has 6", INDEX, () -> x.declare(0, 10, -1, false));
        due("19: one is dropped", 5, () -> x.dropDeclaration(0, 5));
        due("19: and it has 6 again", 6, () -> x.declare(0, 9, 2, true));
        refused("19: not more", STATE, () -> x.declare(0, 9, 2, true));
    }

    private static void declareBox() {
        range("20: the rule", 0, 0, INDEX, BoundTests::styled, (x, i) -> x.declareBox(i, 0, 0, false));
        range("20: the width, -1 for not told", -1, 2, INDEX, BoundTests::styled,
                (x, i) -> x.declareBox(0, i, 0, false));
        range("20: the margin, -1 for not told", -1, 2, INDEX, BoundTests::styled,
                (x, i) -> x.declareBox(0, 0, i, false));
        Cascadum x = styled();
        for (int i = 0; i < 4; i++) {
            x.declare(0, 0, 0, false);
        }
        due("20: it has 4", 6, () -> x.declareBox(0, 0, 0, false));
        refused("20: it has 6", STATE, () -> x.declareBox(0, 0, 0, false));
        x.dropDeclaration(0, 0);
        refused("20: it has 5", STATE, () -> x.declareBox(0, 0, 0, false));
        refused("20: it has 5, one is not told", STATE, () -> x.declareBox(0, -1, 0, false));
        refused("20: no width, it has 5", INDEX, () -> x.declareBox(0, 3, 0, false));
        refused("20: no margin, it has 5", INDEX, () -> x.declareBox(0, 0, -2, false));
        due("20: what was refused has made no value", 3, () -> n(x, 0));
        due("20: one more declaration", 6, () -> x.declare(0, 0, 0, false));
        x.dropDeclaration(0, 0);
        x.dropDeclaration(0, 0);
        due("20: it has 4 again, neither is told", 6, () -> x.declareBox(0, -1, -1, false));
    }

    private static void declareBoxValues() {
        Cascadum x = styled();
        for (int i = 3; i < 79; i++) {
            n(x, 0);
        }
        due("20: there are 79 values, one is not told", 2, () -> x.declareBox(0, 0, -1, false));
        refused("20: there are 80 values", STATE, () -> n(x, 0));
        due("20: the last value is what was not told", 3, () -> x.declare(0, 3, 79, false));
        x.dropDeclaration(0, 2);
        refused("20: there are 80 values, the margin is not told", STATE, () -> x.declareBox(0, 0, -1, false));
        refused("20: there are 80 values, the width is not told", STATE, () -> x.declareBox(0, -1, 0, false));
        refused("20: there are 80 values, neither is told", STATE, () -> x.declareBox(0, -1, -1, false));
        refused("20: no margin, the width is not told", INDEX, () -> x.declareBox(0, -1, 80, false));
        refused("20: no width, the margin is not told", INDEX, () -> x.declareBox(0, 80, -1, false));
        refused("20: no rule, neither is told", INDEX, () -> x.declareBox(1, -1, -1, false));
        due("20: both are told", 4, () -> x.declareBox(0, 79, 79, false));
        Cascadum y = styled();
        for (int i = 3; i < 79; i++) {
            n(y, 0);
        }
        due("20: there are 79 values, neither is told", 2, () -> y.declareBox(0, -1, -1, false));
    }

    private static void dropDeclaration() {
        Maker three = () -> {
            Cascadum x = styled();
            for (int i = 0; i < 3; i++) {
                x.declare(0, i, i, false);
            }
            return x;
        };
        range("21: the rule", 0, 0, INDEX, three, (x, i) -> x.dropDeclaration(i, 0));
        range("21: the index", 0, 2, INDEX, three, (x, i) -> x.dropDeclaration(0, i));
        Cascadum x = three.make();
        due("21: two are left", 2, () -> x.dropDeclaration(0, 2));
        refused("21: the last one is gone", INDEX, () -> x.dropDeclaration(0, 2));
        due("21: one is left", 1, () -> x.dropDeclaration(0, 0));
        refused("21: the one behind has come earlier", INDEX, () -> x.dropDeclaration(0, 1));
        due("21: none is left", 0, () -> x.dropDeclaration(0, 0));
        refused("21: there is none", INDEX, () -> x.dropDeclaration(0, 0));
        Cascadum y = three.make();
        for (int i = 0; i < 3; i++) {
            y.declare(0, i, i, false);
        }
        comeEarlier();
        due("21: the sixth one", 5, () -> y.dropDeclaration(0, 5));
        refused("21: the seventh one", INDEX, () -> y.dropDeclaration(0, 6));
    }

    /** Which one is dropped, and what is left of the properties 0, 3 and 4, each told once more as important. */
    private static void comeEarlier() {
        int[] properties = {0, 3, 4, 0, 3, 4};
        for (int dropped = 0; dropped < 6; dropped++) {
            Cascadum x = ruled();
            for (int i = 0; i < 6; i++) {
                x.declare(0, properties[i], n(x, 10 + i), i < 3);
            }
            x.dropDeclaration(0, dropped);
            x.refresh();
            for (int i = 0; i < 3; i++) {
                int property = properties[i];
                int want = i == dropped ? 13 + i : 10 + i;
                int count = i == dropped % 3 ? 1 : 2;
                due("21: without " + dropped + ", the property " + property, want, () -> x.computed(1, property));
                due("21: without " + dropped + ", so many", count, () -> x.candidates(1, property));
            }
            x.dropDeclaration(0, 0);
            x.dropDeclaration(0, 0);
            x.refresh();
            int last = dropped < 3 ? 15 : 12;
            due("21: two more, the first ones", last, () -> x.computed(1, 4));
        }
    }

    private static final String[] NAMES = {
        "25: computed", "26: computedAnew", "27: width", "28: winner", "29: candidates", "30: candidateAt",
        "33: counter", "34: counters", "31: matches"};

    private static Object ask(int which, Cascadum x, int element, int property) {
        return switch (which) {
            case 0 -> x.computed(element, property);
            case 1 -> x.computedAnew(element, property);
            case 2 -> x.width(element);
            case 3 -> x.winner(element, property);
            case 4 -> x.candidates(element, property);
            case 5 -> x.candidateAt(element, property, 0);
            case 6 -> x.counter(element);
            case 7 -> x.counters(element);
            default -> x.matches(0, element);
        };
    }

    private static boolean asksForProperty(int which) {
        return which < 6 && which != 2;
    }

    /** All properties are declared for all elements. */
    private static Cascadum given(Maker maker) {
        Cascadum x = maker.make();
        all(x);
        n(x, 3);
        for (int i = 0; i < 10; i++) {
            int rule = i % 5 == 0 ? x.addRule(2, -1, 0) : i / 5;
            x.declare(rule, i, 0, false);
        }
        x.refresh();
        return x;
    }

    private static void asksOfStyled() {
        for (int i = 0; i < NAMES.length; i++) {
            int which = i;
            range(NAMES[i] + ", the element", 0, 3, INDEX, () -> given(BoundTests::four),
                    (x, element) -> ask(which, x, element, 0));
            range(NAMES[i] + ", the element of 30", 0, 29, INDEX, () -> given(BoundTests::thirty),
                    (x, element) -> ask(which, x, element, 0));
            if (asksForProperty(which)) {
                range(NAMES[i] + ", the property", 0, 9, ARGUMENT, () -> given(BoundTests::four),
                        (x, property) -> ask(which, x, 3, property));
            }
        }
    }

    private static void asksOrder() {
        for (int i = 0; i < NAMES.length; i++) {
            int which = i;
            Cascadum x = given(BoundTests::four);
            x.addElement(0, 0, 0, 0);
            x.removeElement(1);
            refused(NAMES[i] + ": it was removed", STATE, () -> ask(which, x, 1, 0));
            refused(NAMES[i] + ": it was removed with the one above it", STATE, () -> ask(which, x, 3, 0));
            boolean isAsNow = which == 1 || which == 8;
            if (isAsNow) {
                due(NAMES[i] + ": not styled yet", which == 8 ? true : 3, () -> ask(which, x, 4, 0));
            } else {
                refused(NAMES[i] + ": not styled yet", STATE, () -> ask(which, x, 4, 0));
            }
            if (asksForProperty(which)) {
                refused(NAMES[i] + ": no element, no property", INDEX, () -> ask(which, x, 5, 10));
                refused(NAMES[i] + ": no property, it was removed", ARGUMENT, () -> ask(which, x, 1, 10));
                refused(NAMES[i] + ": no property, not styled yet", ARGUMENT, () -> ask(which, x, 4, -1));
            }
        }
        Cascadum y = ruled();
        for (int i = 0; i < NAMES.length; i++) {
            int which = i;
            if (which != 1 && which != 8) {
                refused(NAMES[i] + ": not styled yet, and none is there", STATE, () -> ask(which, y, 1, 5));
            }
        }
        y.refresh();
        y.removeElement(1);
        for (int i = 0; i < NAMES.length; i++) {
            int which = i;
            refused(NAMES[i] + ": removed, and none was there", STATE, () -> ask(which, y, 1, 5));
        }
    }

    private static void candidateAt() {
        Maker three = () -> {
            Cascadum x = styled();
            for (int i = 0; i < 3; i++) {
                x.declare(0, 0, i, false);
            }
            x.refresh();
            return x;
        };
        range("30: the index", 0, 2, NONE, three, (x, i) -> x.candidateAt(1, 0, i));
        refused("30: none of another property", NONE, () -> three.make().candidateAt(1, 1, 0));
        refused("30: nor an index below 0 of it", NONE, () -> three.make().candidateAt(1, 1, -1));
        refused("30: no property, no index", ARGUMENT, () -> three.make().candidateAt(1, 10, 3));
        refused("30: no element, no index", INDEX, () -> three.make().candidateAt(4, 0, -1));
        Cascadum x = three.make();
        x.addElement(0, 0, 0, 0);
        x.removeElement(3);
        refused("30: not styled yet, no index", STATE, () -> x.candidateAt(4, 0, 3));
        refused("30: it was removed, no index", STATE, () -> x.candidateAt(3, 0, -1));
        refused("28: none declares it", NONE, () -> x.winner(1, 1));
        due("28: one declares it", 0, () -> x.winner(1, 0));
        due("29: none", 0, () -> x.candidates(1, 1));
        due("29: three", 3, () -> x.candidates(1, 0));
        mostCandidates();
    }

    private static void mostCandidates() {
        Cascadum x = four();
        all(x);
        n(x, 0);
        for (int i = 0; i < 16; i++) {
            x.addRule(i % 3, -1, 0);
            for (int more = 0; more < 6; more++) {
                x.declare(i, 4, 0, more % 2 == 0);
            }
        }
        x.refresh();
        due("29: all that can be", 96, () -> x.candidates(3, 4));
        due("30: the first one", 15, () -> x.candidateAt(3, 4, 0));
        due("30: the last one", 0, () -> x.candidateAt(3, 4, 95));
        refused("30: behind it", NONE, () -> x.candidateAt(3, 4, 96));
    }

    private static void matchesAndWeight() {
        range("31: the selector", 0, 1, INDEX, BoundTests::ruled, (x, i) -> x.matches(i, 0));
        range("32: the selector", 0, 1, INDEX, BoundTests::ruled, Cascadum::weight);
        Cascadum x = ruled();
        x.removeElement(1);
        refused("31: no selector, it was removed", INDEX, () -> x.matches(2, 1));
        refused("31: it was removed", STATE, () -> x.matches(1, 3));
        due("31: ahead of any refresh()", true, () -> x.matches(1, 2));
        refused("31: no selector, no element", INDEX, () -> x.matches(-1, -1));
    }

    private static void counters() {
        Cascadum x = styled();
        refused("33: it sees none", NONE, () -> x.counter(3));
        due("34: it sees none", 0, () -> x.counters(3));
        x.declare(0, 9, 0, false);
        x.addElement(3, 0, 0, 0);
        refused("33: no refresh() since it was made", STATE, () -> x.counter(4));
        refused("34: no refresh() since it was made", STATE, () -> x.counters(4));
        refused("33: none as of the last refresh()", NONE, () -> x.counter(3));
        x.refresh();
        due("33: now there was one", 0, () -> x.counter(4));
        due("34: it sees one", 1, () -> x.counters(4));
        x.removeElement(4);
        refused("33: it was removed", STATE, () -> x.counter(4));
        refused("34: it was removed", STATE, () -> x.counters(4));
        manyCounters();
    }

    private static void manyCounters() {
        Cascadum x = thirty();
        x.addRule(2, -1, all(x));
        x.declare(0, 8, n(x, 9999), false);
        x.refresh();
        for (int i = 0; i < 30; i++) {
            int element = i;
            due("34: one in the other", i + 1, () -> x.counters(element));
        }
        due("33: the innermost one", 9999, () -> x.counter(29));
        x.declare(0, 9, 0, false);
        x.dropDeclaration(0, 0);
        x.refresh();
        due("33: 30 steps", 30 * 9999, () -> x.counter(29));
        due("34: of one", 1, () -> x.counters(29));
    }

    private static void nothingToDivideBy() {
        Cascadum x = new Cascadum();
        refused("36: none was styled anew", DIVISION, x::sharedShare);
        refused("37: there was no call", DIVISION, x::meanStyled);
        due("35: none is styled", 0L, x::widths);
        due("38: there was no refresh()", true, x::isTrue);
        due("22: the root", 1, x::refresh);
        due("36: none of 1", 0.0f, x::sharedShare);
        due("37: 1 by 1", 1.0, x::meanStyled);
        due("38: it holds", true, x::isTrue);
        due("22: nothing", 0, x::refresh);
        due("37: 1 by 2", 0.5, x::meanStyled);
        x.addElement(0, 0, 0, 0);
        x.addElement(0, 0, 0, 0);
        x.refresh();
        due("36: as floats", 1f / 3f, x::sharedShare);
        due("37: as doubles", 3.0 / 3.0, x::meanStyled);
        x.addElement(0, 2, 0, 0);
        x.refresh();
        due("36: 2 of 4", 0.5f, x::sharedShare);
        due("37: 4 by 4", 1.0, x::meanStyled);
        x.refresh();
        x.refresh();
        x.refresh();
        due("37: 4 by 7", 4.0 / 7.0, x::meanStyled);
    }
}
