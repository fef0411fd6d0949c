/** Promises 22 to 24, 27 and 33 to 38: refreshes, the layout, the counters and what is told of them all. */
public final class StyleTests extends Checks {
    public static void main(String[] args) {
        refreshByRules();
        refreshByDeclarations();
        refreshByParents();
        refreshByOtherParents();
        refreshByWidths();
        sharing();
        sharingWithOneNotStyledAnew();
        width();
        widths();
        countersInScopes();
        countersByStepsAlone();
        countersEnd();
        countersAtTheRoot();
        countersRefuse();
        shares();
        isTrue();
        isTrueBehindEachChange();
        close("StyleTests");
    }

    /** The root with children 1, 2, 3 of the class 0 and a child 4 of the class 1 below 1; rule 0 is for class 0. */
    private static Cascadum family() {
        Cascadum x = new Cascadum();
        for (int i = 0; i < 3; i++) {
            x.addElement(0, i, 0, 1);
        }
        x.addElement(1, 0, 0, 2);
        x.addRule(2, -1, x.selector(x.compound(-1, 1, 0, false)));
        x.value('n', 5, 0);
        x.value('n', 6, 0);
        return x;
    }

    private static void refreshByRules() {
        Cascadum x = family();
        due("22: all, the first time", 5, x::refresh);
        due("22: none, the second time", 0, x::refresh);
        x.setClasses(4, 4);
        due("22: a class that no rule asks for", 0, x::refresh);
        x.setClasses(4, 1);
        due("22: a rule that matches now", 1, x::refresh);
        x.setClasses(4, 2);
        due("22: and no longer", 1, x::refresh);
        x.setClasses(2, 0);
        x.setClasses(2, 1);
        due("22: only what is so at the call counts", 0, x::refresh);
        x.addRule(2, -1, 0);
        due("22: one more rule without declarations", 3, x::refresh);
        x.setScope(1, 0);
        due("22: another nearness", 3, x::refresh);
        x.alsoFor(1, x.selector(x.compound(0, 1, 0, false)));
        due("22: another weight", 3, x::refresh);
        x.addLayer(2, -1);
        due("22: a layer changes nothing", 0, x::refresh);
        x.addElement(1, 0, 0, 2);
        due("22: one that was not styled yet", 1, x::refresh);
        due("24: in all", 17, x::styled);
    }

    private static void refreshByDeclarations() {
        Cascadum x = family();
        x.refresh();
        x.declare(0, 3, 0, false);
        due("22: a declaration was given, and 4 has another parent's number", 4, x::refresh);
        x.declare(0, 3, 0, false);
        due("22: it changes no number", 3, x::refresh);
        x.declare(0, 3, 1, false);
        x.dropDeclaration(0, 2);
        due("22: whatever it has now", 3, x::refresh);
        x.dropDeclaration(0, 0);
        due("22: a declaration was lost", 3, x::refresh);
        x.setClasses(3, 0);
        x.declare(0, 0, 1, false);
        due("22: one that does not match now, and one below", 4, x::refresh);
        x.declare(0, 0, 1, false);
        x.setClasses(3, 1);
        due("22: one that did not match then", 3, x::refresh);
        refreshByDeclarationsWhileApart();
        refreshByARuleWithoutWeight();
    }

    private static void refreshByARuleWithoutWeight() {
        Cascadum x = family();
        int all = x.addRule(2, -1, x.selector(x.compound(-1, 0, 0, false)));
        x.refresh();
        x.declare(all, 2, x.value('%', 100, 0), false);
        due("22: a rule without weight was given a declaration", 5, x::refresh);
        x.setWindow(10);
        due("22: its '%' asks for the width", 5, x::refresh);
        x.dropDeclaration(all, 0);
        due("22: it lost it", 5, x::refresh);
    }

    private static void refreshByDeclarationsWhileApart() {
        Cascadum x = family();
        x.refresh();
        x.setCondition(0, 1);
        x.declare(0, 0, 0, false);
        x.setCondition(0, -1);
        due("22: given while it did not match", 4, x::refresh);
        x.declare(0, 0, 1, false);
        x.setCondition(0, 1);
        due("22: no rule matches any more", 4, x::refresh);
        x.dropDeclaration(0, 0);
        due("22: lost while it did not match", 0, x::refresh);
        refused("22: a call that throws is no change", INDEX, () -> x.dropDeclaration(0, 9));
        due("22: nothing to do", 0, x::refresh);
    }

    private static void refreshByParents() {
        Cascadum x = family();
        int root = x.addRule(2, -1, x.selector(x.compound(0, 0, 3, false)));
        x.refresh();
        for (int property = 0; property < 10; property++) {
            x.declare(root, property, 0, false);
            int isInherited = property == 2 || property == 3 || property > 7 ? 0 : 1;
            due("22: any number of the parent " + property, 4 + isInherited, x::refresh);
            x.dropDeclaration(root, 0);
            due("22: and back", 4 + isInherited, x::refresh);
        }
        x.declare(root, 2, x.value('o', 0, 0), false);
        due("22: no other number", 1, x::refresh);
    }

    private static void refreshByOtherParents() {
        Cascadum x = family();
        x.refresh();
        x.moveElement(4, 2);
        due("22: another parent with the same numbers", 0, x::refresh);
        x.addElement(0, 3, 0, 4);
        x.refresh();
        x.declare(0, 0, 0, false);
        due("22: three and the one below", 4, x::refresh);
        x.moveElement(4, 5);
        due("22: a parent with another number", 1, x::refresh);
        x.moveElement(4, 3);
        x.moveElement(4, 5);
        due("22: only where it is at the call counts", 0, x::refresh);
        due("25: its colour is that of the parent", 0, () -> x.computed(4, 0));
    }

    private static void refreshByWidths() {
        Cascadum x = family();
        x.declare(0, 3, 0, false);
        x.refresh();
        x.setWindow(500);
        due("22: no declaration with '%'", 0, x::refresh);
        x.declare(0, 8, x.value('+', 0, x.value('v', 5, x.value('%', 0, 0))), false);
        due("22: now there is one, of a property that cannot have it", 3, x::refresh);
        x.setWindow(600);
        due("22: another width, the numbers being the same", 3, x::refresh);
        x.setWindow(700);
        x.setWindow(600);
        due("22: the same width", 0, x::refresh);
        int root = x.addRule(2, -1, x.selector(x.compound(0, 0, 3, false)));
        x.declare(root, 2, x.value('n', 600, 0), false);
        due("22: the root has a number, so has the parent of three", 4, x::refresh);
        x.setWindow(800);
        due("22: the window is for the root alone", 0, x::refresh);
        x.declare(root, 9, x.value('%', 1, 0), false);
        due("22: a '%' at the root", 1, x::refresh);
        x.setWindow(801);
        due("22: for the root alone", 1, x::refresh);
        x.dropDeclaration(root, 1);
        x.refresh();
        x.setWindow(802);
        due("22: it is gone", 0, x::refresh);
        x.moveElement(3, 4);
        due("22: another parent is narrower, and has other numbers", 1, x::refresh);
        refreshByWidthsWithAllRules();
    }

    private static void refreshByWidthsWithAllRules() {
        Cascadum x = family();
        for (int i = 1; i < 16; i++) {
            x.addRule(2, -1, 0);
        }
        x.declare(15, 3, 0, false);
        x.refresh();
        x.setWindow(300);
        due("22: sixteen rules without '%'", 0, x::refresh);
        x.declare(15, 3, x.value('%', 10, 0), false);
        due("22: the last one has it", 4, x::refresh);
        x.setWindow(400);
        due("22: and 4 has another number above", 4, x::refresh);
    }

    private static void sharing() {
        Cascadum x = family();
        due("23: none", 0, x::shared);
        x.refresh();
        due("23: 2 of 1, 3 of 2", 2, x::shared);
        x.declare(0, 0, 0, false);
        x.refresh();
        due("23: in all", 4, x::shared);
        x.setClasses(2, 2);
        x.refresh();
        due("23: other rules", 4, x::shared);
        x.setClasses(3, 2);
        x.refresh();
        due("23: no rules are the same rules", 5, x::shared);
        due("25: its numbers", 0, () -> x.computed(3, 0));
        due("29: its candidates", 0, () -> x.candidates(3, 0));
        x.setClasses(2, 1);
        x.setClasses(3, 1);
        x.refresh();
        due("23: both again", 7, x::shared);
        due("25: the numbers of 2", 5, () -> x.computed(3, 0));
        due("30: the candidates", 0, () -> x.candidateAt(3, 0, 0));
        x.moveElement(1, 0);
        due("23: nothing is styled anew", 0, x::refresh);
        due("23: so that nothing is shared", 7, x::shared);
        due("24: all that were", 13, x::styled);
    }

    private static void sharingWithOneNotStyledAnew() {
        Cascadum x = family();
        x.refresh();
        x.addElement(0, 1, 3, 1);
        x.addElement(0, 0, 3, 1);
        due("22: the two that are new", 2, x::refresh);
        due("23: 5 of 1, which is not styled anew", 3, x::shared);
        int weighty = x.selector(x.compound(3, 1, 0, false));
        x.alsoFor(0, weighty);
        due("22: another weight for both", 2, x::refresh);
        due("23: the same rule with another weight is another one", 3, x::shared);
        x.moveElement(5, 0);
        x.moveElement(6, 0);
        x.alsoFor(0, x.selector(x.compound(3, 1, 4, false)));
        due("22: another weight again", 2, x::refresh);
        due("23: 6 of 5", 4, x::shared);
        x.setScope(0, 0);
        due("22: another nearness for all", 5, x::refresh);
        due("23: 2 of 1, 3 of 2, 6 of 5", 7, x::shared);
        x.setClasses(0, 1);
        due("22: now the root matches", 1, x::refresh);
        x.setClasses(2, 2);
        x.addRule(2, -1, x.selector(x.compound(-1, 0, 0, false)));
        x.setScope(1, 0);
        due("22: a rule for all", 7, x::refresh);
        due("23: 6 of 5 alone, as 2 is further from its scope", 8, x::shared);
    }

    private static void width() {
        Cascadum x = family();
        refused("27: not styled yet", STATE, () -> x.width(0));
        refused("27: no such element", INDEX, () -> x.width(5));
        refused("27: below 0", INDEX, () -> x.width(-1));
        x.declare(0, 3, x.value('n', 30, 0), false);
        int four = x.addRule(2, -1, x.selector(x.compound(-1, 2, 0, false)));
        x.declare(four, 3, x.value('n', 470, 0), false);
        x.refresh();
        due("27: the window at the root", 1000, () -> x.width(0));
        due("27: less 2 times its margin", 940, () -> x.width(1));
        due("27: of that of the parent", 0, () -> x.width(4));
        x.declare(four, 3, x.value('n', 471, 0), false);
        x.refresh();
        due("27: never below 0", 0, () -> x.width(4));
        x.declare(four, 3, x.value('n', -9999, 0), false);
        x.refresh();
        due("27: a margin below 0", 940 + 2 * 9999, () -> x.width(4));
        x.declare(four, 2, x.value('n', 77, 0), false);
        x.refresh();
        due("27: the number as it is, the margin aside", 77, () -> x.width(4));
        x.setWindow(100);
        due("27: as of the last refresh()", 940, () -> x.width(1));
        x.refresh();
        due("27: an element that is not styled anew", 40, () -> x.width(1));
        x.removeElement(4);
        refused("27: it was removed", STATE, () -> x.width(4));
    }

    private static void widths() {
        Cascadum root = new Cascadum();
        root.refresh();
        due("35: the root alone", 1000L, root::widths);
        Cascadum x = family();
        due("35: none is styled", 0L, x::widths);
        x.declare(0, 2, x.value('n', 300, 0), false);
        x.refresh();
        due("35: the sum", 1000L + 3 * 300 + 300, x::widths);
        x.addElement(0, 0, 0, 1);
        due("35: without what is not styled", 2200L, x::widths);
        x.removeElement(1);
        due("35: without what was removed", 1600L, x::widths);
        x.refresh();
        due("35: with the new one", 1900L, x::widths);
        x.setWindow(1);
        due("35: as of the last refresh()", 1900L, x::widths);
        Cascadum y = new Cascadum();
        y.addRule(2, -1, y.selector(y.compound(-1, 0, 0, false)));
        y.declare(0, 1, y.value('n', 9999, 0), false);
        y.declare(0, 3, y.value('e', -9999, 0), false);
        long want = 0;
        long width = 1000;
        for (int i = 0; i < 30; i++) {
            width += 2 * 999800L;
            want += width;
            if (i > 0) {
                y.addElement(i - 1, 0, 0, 0);
            }
        }
        y.refresh();
        due("35: more than the widths themselves are held within", want, y::widths);
    }

    /** Class 0: a reset to 10, class 1: a reset to 20, class 2: a step by 3, class 3: a step by -1. */
    private static Cascadum counting() {
        Cascadum x = new Cascadum();
        int[] numbers = {10, 20, 3, -1};
        for (int i = 0; i < 4; i++) {
            x.addRule(2, -1, x.selector(x.compound(-1, 1 << i, 0, false)));
            x.declare(i, i < 2 ? 8 : 9, x.value('n', numbers[i], 0), false);
        }
        return x;
    }

    private static void counted(Cascadum x, int element, int value, int howMany) {
        due("33: the value at " + element, value, () -> x.counter(element));
        due("34: how many at " + element, howMany, () -> x.counters(element));
    }

    private static void countersInScopes() {
        Cascadum x = counting();
        x.addElement(0, 0, 0, 0);
        x.addElement(0, 1, 0, 1);
        x.addElement(2, 0, 0, 4);
        x.addElement(2, 1, 0, 2);
        x.addElement(2, 2, 0, 4);
        x.addElement(5, 0, 0, 4);
        x.addElement(0, 2, 0, 4);
        x.addElement(7, 0, 0, 4);
        x.addElement(0, 3, 0, 6);
        x.refresh();
        refused("33: ahead of the first one", NONE, () -> x.counter(1));
        due("34: none there", 0, () -> x.counters(1));
        refused("33: the one above sees none", NONE, () -> x.counter(0));
        counted(x, 2, 10, 1);
        counted(x, 3, 13, 1);
        counted(x, 4, 20, 2);
        counted(x, 5, 23, 2);
        counted(x, 6, 26, 2);
        counted(x, 7, 16, 1);
        counted(x, 8, 19, 1);
        counted(x, 9, 23, 1);
        x.moveElement(8, 4);
        x.setClasses(4, 0);
        due("33: as of the last refresh()", 19, () -> x.counter(8));
        due("22: 4 has other rules, 8 has another number above", 2, x::refresh);
        counted(x, 4, 13, 1);
        counted(x, 8, 16, 1);
        counted(x, 5, 19, 1);
        counted(x, 7, 25, 1);
    }

    private static void countersByStepsAlone() {
        Cascadum x = counting();
        x.addElement(0, 0, 0, 0);
        x.addElement(1, 0, 0, 4);
        x.addElement(1, 1, 0, 8);
        x.addElement(3, 0, 0, 8);
        x.addElement(0, 1, 0, 8);
        x.addElement(0, 2, 0, 0);
        x.addElement(6, 0, 0, 1);
        x.addElement(0, 3, 0, 12);
        x.addElement(0, 4, 0, 2);
        x.refresh();
        counted(x, 2, 3, 1);
        counted(x, 3, 2, 1);
        counted(x, 4, 1, 1);
        counted(x, 5, -1, 1);
        counted(x, 6, -1, 1);
        counted(x, 7, 10, 2);
        counted(x, 8, -2, 1);
        counted(x, 9, 20, 1);
    }

    private static void countersEnd() {
        Cascadum x = counting();
        x.setClasses(0, 5);
        x.addElement(0, 0, 0, 1);
        x.addElement(1, 0, 0, 1);
        x.addElement(2, 0, 0, 2);
        x.addElement(2, 1, 0, 5);
        x.addElement(1, 1, 0, 4);
        x.addElement(0, 1, 0, 4);
        x.addElement(0, 2, 0, 2);
        x.addElement(0, 3, 0, 4);
        x.refresh();
        counted(x, 0, 13, 1);
        counted(x, 1, 10, 2);
        counted(x, 2, 10, 3);
        counted(x, 3, 20, 4);
        counted(x, 4, 13, 4);
        counted(x, 5, 13, 3);
        counted(x, 6, 13, 2);
        counted(x, 7, 20, 2);
        counted(x, 8, 23, 2);
        x.removeElement(1);
        x.removeElement(7);
        x.refresh();
        counted(x, 6, 16, 1);
        counted(x, 8, 19, 1);
    }

    private static void countersAtTheRoot() {
        Cascadum x = counting();
        x.addElement(0, 0, 0, 4);
        x.setClasses(0, 4);
        x.refresh();
        counted(x, 0, 3, 1);
        counted(x, 1, 6, 1);
        x.refresh();
        counted(x, 0, 3, 1);
        counted(x, 1, 6, 1);
        x.setClasses(0, 5);
        x.refresh();
        counted(x, 0, 13, 1);
        x.setClasses(0, 0);
        x.refresh();
        due("34: it sees none any more", 0, () -> x.counters(0));
        counted(x, 1, 3, 1);
    }

    private static void countersRefuse() {
        Cascadum x = counting();
        refused("33: no such element", INDEX, () -> x.counter(1));
        refused("33: below 0", INDEX, () -> x.counter(-1));
        refused("34: no such element", INDEX, () -> x.counters(1));
        refused("34: below 0", INDEX, () -> x.counters(-1));
        refused("33: no refresh() yet", STATE, () -> x.counter(0));
        refused("34: no refresh() yet", STATE, () -> x.counters(0));
        x.refresh();
        refused("33: it sees none", NONE, () -> x.counter(0));
        due("34: it sees none", 0, () -> x.counters(0));
        x.addElement(0, 0, 0, 1);
        refused("33: none since it was made", STATE, () -> x.counter(1));
        refused("34: none since it was made", STATE, () -> x.counters(1));
        x.refresh();
        due("33: now there was one", 10, () -> x.counter(1));
        x.removeElement(1);
        refused("33: it was removed", STATE, () -> x.counter(1));
        refused("34: it was removed", STATE, () -> x.counters(1));
    }

    private static void shares() {
        Cascadum x = family();
        refused("36: none were styled", DIVISION, x::sharedShare);
        refused("37: no calls", DIVISION, x::meanStyled);
        x.refresh();
        due("36: 2 of 5", 2f / 5f, x::sharedShare);
        due("37: 5 by 1", 5.0, x::meanStyled);
        x.refresh();
        due("37: a call that styles nothing counts", 2.5, x::meanStyled);
        x.refresh();
        due("37: 5 by 3", 5.0 / 3.0, x::meanStyled);
        x.declare(0, 0, 0, false);
        x.refresh();
        due("36: 4 of 9", 4f / 9f, x::sharedShare);
        due("37: 9 by 4", 2.25, x::meanStyled);
        due("24: in all", 9, x::styled);
        Cascadum y = new Cascadum();
        y.refresh();
        due("36: none of 1", 0f, y::sharedShare);
    }

    private static void isTrue() {
        Cascadum x = family();
        due("38: there was none", true, x::isTrue);
        refused("38: it is no refresh()", STATE, () -> x.computed(0, 0));
        x.declare(0, 2, x.value('%', 50, 0), false);
        x.refresh();
        due("38: it holds", true, x::isTrue);
        x.setWindow(400);
        due("38: one was made", true, x::isTrue);
        due("38: nothing is changed", 500, () -> x.width(1));
        due("38: nor styled", 5, x::styled);
        due("22: all that has '%'", 5 - 1, x::refresh);
        due("38: it holds again", true, x::isTrue);
        x.addElement(4, 0, 0, 1);
        due("38: one that is not styled yet", true, x::isTrue);
        due("22: it is styled anew", 1, x::refresh);
    }

    /** What is kept is not what is found anew, but this is told only if nothing was changed. */
    private static void isTrueBehindEachChange() {
        for (int change = 0; change < 14; change++) {
            Cascadum x = family();
            int narrow = x.addRule(2, -1, x.selector(x.compound(0, 0, 4, false)));
            x.setContainer(0, true);
            x.setCondition(narrow, 500);
            x.declare(narrow, 3, x.value('%', 1, 0), false);
            x.declare(0, 4, 1, false);
            x.declare(0, 8, 1, false);
            int second = x.compound(-1, 0, 0, false);
            x.place(second, 0, 2, 0);
            x.declare(x.addRule(2, -1, x.selector(second)), 9, 1, false);
            int spare = x.selector(x.compound(-1, 2, 0, false));
            x.refresh();
            int number = change;
            due("38: ahead of the change " + number, true, x::isTrue);
            change(x, change, narrow, spare);
            due("38: behind the change " + number, true, x::isTrue);
            x.refresh();
            due("38: behind a refresh() " + number, true, x::isTrue);
        }
    }

    private static void change(Cascadum x, int number, int rule, int spare) {
        switch (number) {
            case 0 -> x.addElement(0, 0, 0, 1);
            case 1 -> x.removeElement(1);
            case 2 -> x.moveElement(4, 0);
            case 3 -> x.setClasses(1, 4);
            case 4 -> x.setContainer(0, false);
            case 5 -> x.setWindow(501);
            case 6 -> x.declare(x.addRule(2, -1, spare), 0, 1, false);
            case 7 -> x.alsoFor(0, spare);
            case 8 -> x.setScope(rule, 5);
            case 9 -> x.setCondition(rule, 5000);
            case 10 -> x.declare(0, 0, 0, false);
            case 11 -> x.declareBox(0, 0, 1, true);
            case 12 -> x.dropDeclaration(0, 0);
            default -> x.addLayer(0, -1);
        }
    }
}
