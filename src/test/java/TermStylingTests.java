/** The sentences of "Terms" on counters and styling that name a bound or an edge, and promises 22 to 24 and 35 to 38. */
public final class TermStylingTests extends Checks {
    public static void main(String[] args) {
        counterOfTheRoot();
        laterSiblingsSee();
        endedByASibling();
        notEndedByOthers();
        stepsOfTheInnermost();
        stepsOpenAtZero();
        stepsOpenAsResets();
        behindBoth();
        countersByOtherValues();
        countersAreFoundAtEachRefresh();
        notStyledYet();
        otherRules();
        otherWeights();
        otherNearness();
        givenOrLost();
        numbersOfTheParent();
        whicheverParent();
        widthOfTheParent();
        widthOfTheWindow();
        sixteenRules();
        ruleWithoutWeight();
        whatChangesNothing();
        sharedWithTheOneAhead();
        notShared();
        sharedFromOneNotStyledAnew();
        inAll();
        sumOfWidths();
        shares();
        truth();
        truthBehindEachCall();
        lastOfTheCalls();
        close("TermStylingTests");
    }

    // ---- what the tests share

    /** Class 0 resets to 10, class 1 resets to 20, class 2 steps by 1, class 3 steps by -5, class 4 resets to 0. */
    private static Cascadum counting() {
        Cascadum x = new Cascadum();
        int[] numbers = {10, 20, 1, -5, 0};
        int[] properties = {8, 8, 9, 9, 8};
        for (int i = 0; i < 5; i++) {
            x.addRule(2, -1, x.selector(x.compound(-1, 1 << i, 0, false)));
            x.declare(i, properties[i], x.value('n', numbers[i], 0), false);
        }
        return x;
    }

    private static final int RESET = 1;
    private static final int RESET20 = 2;
    private static final int STEP = 4;
    private static final int STEP_BACK = 8;
    private static final int RESET0 = 16;

    private static void seen(String what, Cascadum x, int element, int value, int howMany) {
        due(what + ": the value", value, () -> x.counter(element));
        due(what + ": how many", howMany, () -> x.counters(element));
    }

    private static void sees(String what, Cascadum x, int element) {
        refused(what + ": no value", NONE, () -> x.counter(element));
        due(what + ": none", 0, () -> x.counters(element));
    }

    private static int n(Cascadum x, int number) {
        return x.value('n', number, 0);
    }

    // ---- counters

    private static void counterOfTheRoot() {
        Cascadum x = counting();
        x.addElement(0, 0, 0, 0);
        x.refresh();
        sees("neither reset nor step", x, 0);
        sees("below it", x, 1);
        x.setClasses(0, RESET0);
        x.refresh();
        seen("a reset with the number 0", x, 0, 0, 1);
        seen("what is in it sees it, too", x, 1, 0, 1);
        x.setClasses(0, STEP_BACK);
        x.refresh();
        seen("a step alone, below 0", x, 0, -5, 1);
        x.setClasses(0, 0);
        x.refresh();
        sees("neither any more", x, 0);
    }

    private static void laterSiblingsSee() {
        Cascadum x = counting();
        x.addElement(0, 0, 0, 0);
        x.addElement(0, 1, 0, RESET);
        x.addElement(0, 2, 0, 0);
        x.addElement(3, 0, 0, 0);
        x.addElement(4, 0, 0, 0);
        x.addElement(2, 0, 0, 0);
        x.refresh();
        sees("the sibling ahead does not see it", x, 1);
        sees("the parent does not see it", x, 0);
        seen("itself", x, 2, 10, 1);
        seen("what is in it", x, 6, 10, 1);
        seen("its later sibling", x, 3, 10, 1);
        seen("what is in this", x, 4, 10, 1);
        seen("what is two steps in it", x, 5, 10, 1);
        x.addElement(0, 0, 0, 0);
        x.moveElement(2, 7);
        x.refresh();
        seen("it has another parent now", x, 2, 10, 1);
        sees("whose siblings do not see it", x, 3);
        sees("nor does this parent", x, 7);
    }

    private static void endedByASibling() {
        Cascadum x = counting();
        x.addElement(0, 0, 0, RESET);
        x.addElement(0, 1, 0, 0);
        x.addElement(0, 2, 0, RESET20);
        x.addElement(0, 3, 0, STEP);
        x.refresh();
        seen("the first one", x, 1, 10, 1);
        seen("a sibling between", x, 2, 10, 1);
        seen("it ends the one that a sibling ahead has opened", x, 3, 20, 1);
        seen("the later sibling sees one alone", x, 4, 21, 1);
        x.setClasses(0, RESET);
        x.refresh();
        seen("not the one that the parent has opened", x, 3, 20, 2);
    }

    private static void notEndedByOthers() {
        Cascadum x = counting();
        x.addElement(0, 0, 0, RESET);
        x.addElement(1, 0, 0, RESET20);
        x.addElement(0, 1, 0, 0);
        x.addElement(3, 0, 0, RESET20);
        x.addElement(3, 1, 0, 0);
        x.addElement(0, 2, 0, STEP);
        x.refresh();
        seen("with another parent: within one another", x, 2, 20, 2);
        seen("in a later sibling", x, 4, 20, 2);
        seen("its later sibling sees both", x, 5, 20, 2);
        seen("behind them the first one is seen alone", x, 6, 11, 1);
        x.setClasses(3, RESET0);
        x.refresh();
        seen("the sibling ahead with the same parent is ended", x, 3, 0, 1);
        seen("and the one in it is within this", x, 4, 20, 2);
        seen("this goes on", x, 6, 1, 1);
    }

    private static void stepsOfTheInnermost() {
        Cascadum x = counting();
        x.setClasses(0, RESET);
        x.addElement(0, 0, 0, STEP);
        x.addElement(0, 1, 0, RESET20);
        x.addElement(2, 0, 0, STEP);
        x.addElement(2, 1, 0, STEP_BACK);
        x.addElement(0, 2, 0, STEP);
        x.refresh();
        seen("the counter of the root", x, 1, 11, 1);
        seen("another one in it", x, 2, 20, 2);
        seen("a step adds to the innermost one", x, 3, 21, 2);
        seen("below what it was", x, 4, 16, 2);
        seen("it is the innermost one for a later sibling", x, 5, 17, 2);
        x.moveElement(1, 0);
        x.setClasses(2, 0);
        x.refresh();
        seen("without it, that of the root", x, 1, 8, 1);
    }

    private static void stepsOpenAtZero() {
        Cascadum x = counting();
        x.addElement(0, 0, 0, STEP);
        x.addElement(0, 1, 0, STEP_BACK);
        x.addElement(2, 0, 0, STEP);
        x.addElement(0, 2, 0, 0);
        x.refresh();
        seen("opened at 0 if it sees none, then 1", x, 1, 1, 1);
        seen("the later sibling sees it", x, 2, -4, 1);
        seen("what is in this, too", x, 3, -3, 1);
        seen("and a later one", x, 4, -3, 1);
        sees("not the parent", x, 0);
        Cascadum y = counting();
        y.declare(y.addRule(2, -1, y.selector(y.compound(-1, 32, 0, false))), 9, n(y, 0), false);
        y.addElement(0, 0, 0, 32);
        y.refresh();
        seen("a step of 0 opens one, too", y, 1, 0, 1);
    }

    private static void stepsOpenAsResets() {
        Cascadum x = counting();
        x.addElement(0, 0, 0, 0);
        x.addElement(1, 0, 0, STEP);
        x.addElement(1, 1, 0, STEP);
        x.addElement(0, 1, 0, STEP);
        x.addElement(0, 2, 0, RESET);
        x.addElement(0, 3, 0, STEP);
        x.refresh();
        seen("opened in the first one", x, 2, 1, 1);
        seen("counted on", x, 3, 2, 1);
        seen("elsewhere one of its own is opened at 0", x, 4, 1, 1);
        seen("which a reset of a later sibling ends", x, 5, 10, 1);
        seen("so that one is left", x, 6, 11, 1);
    }

    private static void behindBoth() {
        Cascadum x = counting();
        x.addElement(0, 0, 0, RESET + STEP);
        x.addElement(0, 1, 0, RESET0 + STEP_BACK);
        x.addElement(0, 2, 0, STEP);
        x.refresh();
        seen("reset to 10, then the step", x, 1, 11, 1);
        seen("reset to 0, then the step", x, 2, -5, 1);
        seen("a step alone", x, 3, -4, 1);
    }

    private static void countersByOtherValues() {
        Cascadum x = new Cascadum();
        x.addElement(0, 0, 1, 0);
        x.addElement(1, 0, 2, 0);
        x.addElement(1, 1, 2, 0);
        for (int i = 0; i < 3; i++) {
            x.addRule(2, -1, x.selector(x.compound(i, 0, 0, false)));
        }
        x.declare(0, 8, x.value('e', 50, 0), false);
        x.declare(1, 8, x.value('i', 0, 0), false);
        x.declare(2, 9, x.value('e', -100, 0), false);
        x.refresh();
        seen("a reckoned reset", x, 0, 8, 1);
        seen("one of the parent", x, 1, 8, 2);
        seen("a reckoned step", x, 2, -8, 2);
        seen("once more", x, 3, -24, 2);
        x.declare(1, 8, x.value('o', 0, 0), false);
        x.refresh();
        seen("none at first", x, 1, 8, 1);
        seen("so that it adds to that of the root", x, 3, -24, 1);
    }

    private static void countersAreFoundAtEachRefresh() {
        Cascadum x = counting();
        x.addElement(0, 0, 0, STEP);
        x.addElement(0, 1, 0, STEP);
        x.refresh();
        seen("two steps", x, 2, 2, 1);
        x.refresh();
        seen("found anew, not added once more", x, 2, 2, 1);
        x.moveElement(1, 0);
        seen("as of the last refresh()", x, 2, 2, 1);
        due("nothing is styled anew", 0, x::refresh);
        seen("but the counters are found", x, 2, 1, 1);
        seen("in the order of the tree", x, 1, 2, 1);
        x.removeElement(2);
        seen("not found yet", x, 1, 2, 1);
        due("nothing is styled anew", 0, x::refresh);
        seen("found without the one that was removed", x, 1, 1, 1);
    }

    // ---- styling

    /** The root with the children 1, 2 and 3 of the class 0 and 4 of the class 1 below 3; rule 0 is for the class 0. */
    private static Cascadum five() {
        Cascadum x = new Cascadum();
        for (int i = 0; i < 3; i++) {
            x.addElement(0, i, 0, 1);
        }
        x.addElement(3, 0, 0, 2);
        x.addRule(2, -1, x.selector(x.compound(-1, 1, 0, false)));
        x.addRule(2, -1, x.selector(x.compound(-1, 2, 0, false)));
        x.refresh();
        return x;
    }

    private static void notStyledYet() {
        Cascadum x = new Cascadum();
        due("one is styled anew if it was not styled yet", 1, x::refresh);
        due("now it was", 0, x::refresh);
        x.addElement(0, 0, 0, 0);
        due("one more", 1, x::refresh);
        x.addElement(0, 0, 0, 0);
        x.removeElement(2);
        due("one that is gone is not", 0, x::refresh);
        due("two in all", 2, x::styled);
        Cascadum y = new Cascadum();
        for (int i = 1; i < 30; i++) {
            y.addElement(i - 1, 0, 0, 0);
        }
        due("30", 30, y::refresh);
        due("none of 30", 0, y::refresh);
    }

    private static void otherRules() {
        Cascadum x = five();
        x.setClasses(1, 3);
        due("one more rule", 1, x::refresh);
        x.setClasses(1, 2);
        due("one less", 1, x::refresh);
        x.setClasses(1, 1);
        due("another one", 1, x::refresh);
        x.setClasses(1, 0);
        x.setClasses(1, 1);
        due("the same as when it was styled", 0, x::refresh);
        x.setClasses(1, 5);
        due("other classes, the same rules", 0, x::refresh);
    }

    private static void otherWeights() {
        Cascadum x = five();
        x.alsoFor(0, x.selector(x.compound(-1, 0, 0, false)));
        due("a selector that is lighter is for two more", 2, x::refresh);
        x.alsoFor(0, x.selector(x.compound(0, 1, 0, false)));
        due("one that is heavier by 1, where it matches", 3, x::refresh);
        x.setClasses(2, 2);
        due("other rules", 1, x::refresh);
        Cascadum y = five();
        y.alsoFor(0, 0);
        due("the same weight", 0, y::refresh);
    }

    private static void otherNearness() {
        Cascadum x = five();
        x.setScope(0, 0);
        due("0 is another nearness than 1000", 3, x::refresh);
        x.setClasses(0, 1);
        due("the root matches now, the others are as near", 1, x::refresh);
        x.setScope(0, 2);
        due("none has the class", 4, x::refresh);
        x.setClasses(0, 5);
        due("from the root", 4, x::refresh);
        x.setClasses(3, 5);
        due("nearer by one step", 1, x::refresh);
        x.setScope(1, 2);
        due("4 is one step away", 1, x::refresh);
        x.moveElement(4, 2);
        due("4 is two steps away", 1, x::refresh);
        x.setScope(0, -1);
        due("1000 for four", 4, x::refresh);
    }

    private static void givenOrLost() {
        Cascadum x = five();
        int same = x.value('o', 0, 0);
        x.declare(1, 8, same, false);
        due("given a declaration", 1, x::refresh);
        due("not since", 0, x::refresh);
        x.declare(1, 8, same, false);
        x.dropDeclaration(1, 1);
        due("given and lost, whatever it has now", 1, x::refresh);
        x.dropDeclaration(1, 0);
        due("lost", 1, x::refresh);
        x.declareBox(1, -1, -1, false);
        due("given a box", 1, x::refresh);
        refused("refused", ARGUMENT, () -> x.declare(1, 10, same, false));
        refused("refused", INDEX, () -> x.dropDeclaration(1, 2));
        due("neither given nor lost", 0, x::refresh);
        x.declare(1, 0, same, false);
        x.setClasses(4, 0);
        due("other rules now", 1, x::refresh);
        x.setClasses(1, 3);
        due("the rule was given one ahead of this", 1, x::refresh);
        x.declare(1, 0, same, false);
        due("1 alone has the rule", 1, x::refresh);
    }

    private static void numbersOfTheParent() {
        for (int property = 0; property < 10; property++) {
            Cascadum x = five();
            boolean isInherited = property < 2 || property > 3 && property < 8;
            int root = x.addRule(2, -1, x.selector(x.compound(0, 0, 3, false)));
            x.refresh();
            x.declare(root, property, n(x, 100), false);
            due("a number of any property of its parent: " + property, isInherited ? 5 : 4, x::refresh);
            x.declare(root, property, n(x, 100), false);
            due("the same number, for the root alone: " + property, 1, x::refresh);
            x.declare(root, property, n(x, 101), false);
            due("one more: " + property, isInherited ? 5 : 4, x::refresh);
        }
        Cascadum x = five();
        x.declare(0, 2, n(x, 0), false);
        due("a number, where there was auto", 4, x::refresh);
        x.declare(0, 2, x.value('o', 0, 0), false);
        due("auto again", 4, x::refresh);
        x.declare(0, 8, n(x, 0), false);
        due("a reset of 0, where there was none", 4, x::refresh);
        x.declare(0, 5, x.value('v', 6, -1), false);
        due("not there, as it was not", 3, x::refresh);
    }

    private static void whicheverParent() {
        Cascadum x = five();
        x.moveElement(4, 1);
        due("another parent with the same numbers", 0, x::refresh);
        x.setClasses(2, 4);
        int other = x.addRule(2, -1, x.selector(x.compound(-1, 4, 0, false)));
        x.declare(other, 9, n(x, 1), false);
        due("2 has other rules", 1, x::refresh);
        x.moveElement(4, 2);
        due("a parent with another number", 1, x::refresh);
        x.moveElement(4, 1);
        x.moveElement(4, 2);
        due("its parent now has what its parent had then", 0, x::refresh);
    }

    private static void widthOfTheParent() {
        Cascadum x = five();
        int half = x.value('%', 50, 0);
        x.declare(1, 3, half, false);
        x.refresh();
        due("of 1000", 500, () -> x.computed(4, 3));
        x.setWindow(999);
        due("4 alone has a rule with '%'", 1, x::refresh);
        due("of 999", 499, () -> x.computed(4, 3));
        x.setWindow(1000);
        x.setWindow(999);
        due("the same width", 0, x::refresh);
        x.dropDeclaration(1, 0);
        x.refresh();
        x.setWindow(500);
        due("without '%'", 0, x::refresh);
        int[] values = {
            x.value('+', half, half), x.value('+', n(x, 1), half), x.value('v', 5, half),
            x.value('v', 5, x.value('+', n(x, 1), half))};
        for (int property = 0; property < 10; property++) {
            x.declare(1, property, values[property % 4], false);
            x.refresh();
            x.setWindow(501 + property);
            due("'%' in part, whatever the property: " + property, 1, x::refresh);
            x.dropDeclaration(1, 0);
            x.refresh();
        }
        x.declare(0, 3, half, false);
        x.setClasses(3, 0);
        x.refresh();
        x.setWindow(2000);
        due("1 and 2 have it, 3 and 4 have not", 2, x::refresh);
    }

    private static void widthOfTheWindow() {
        Cascadum x = five();
        int root = x.addRule(2, -1, x.selector(x.compound(0, 0, 3, false)));
        x.declare(root, 2, x.value('%', 0, 0), false);
        x.refresh();
        x.setWindow(999);
        due("the window for the root, though the number is 0", 1, x::refresh);
        x.setWindow(998);
        due("once more", 1, x::refresh);
        x.setWindow(998);
        due("the same", 0, x::refresh);
        x.declare(root, 2, n(x, 700), false);
        due("700 for the root, and another number above three", 4, x::refresh);
        x.declare(0, 3, x.value('%', 1, 0), false);
        due("three with '%' in their rule, and 4 below 3", 4, x::refresh);
        x.setWindow(5000);
        due("the window is for the root alone", 1, x::refresh);
    }

    private static void sixteenRules() {
        Cascadum x = new Cascadum();
        x.addElement(0, 0, 0, 1);
        int one = x.selector(x.compound(-1, 1, 0, false));
        for (int i = 0; i < 16; i++) {
            x.addRule(i % 3, -1, one);
        }
        due("two elements", 2, x::refresh);
        due("nothing to do for 16 rules", 0, x::refresh);
        x.setWindow(900);
        due("none of which has '%'", 0, x::refresh);
        x.declare(15, 0, x.value('%', 1, 0), false);
        due("the last one was given one", 1, x::refresh);
        x.setWindow(800);
        due("and now has it", 1, x::refresh);
        x.dropDeclaration(15, 0);
        due("it lost it", 1, x::refresh);
        x.setScope(15, 5);
        due("the last one does not match any more", 1, x::refresh);
        x.declare(0, 0, 0, false);
        due("the first one was given one", 1, x::refresh);
    }

    private static void ruleWithoutWeight() {
        Cascadum x = new Cascadum();
        x.addElement(0, 0, 0, 0);
        x.addRule(2, -1, x.selector(x.compound(-1, 0, 0, false)));
        x.refresh();
        x.declare(0, 3, x.value('%', 10, 0), false);
        due("a rule that weighs 0 was given a declaration", 2, x::refresh);
        due("it wins", 100, () -> x.computed(0, 3));
        x.setWindow(500);
        due("its '%' asks for the width", 2, x::refresh);
        x.setScope(0, 0);
        due("it does not match any more", 2, x::refresh);
        x.setWindow(600);
        due("so its '%' does not count", 0, x::refresh);
    }

    private static void whatChangesNothing() {
        Cascadum x = five();
        x.setContainer(0, true);
        due("a container that no rule asks for", 0, x::refresh);
        x.addLayer(0, -1);
        x.compound(-1, 0, 0, false);
        x.selector(0);
        n(x, 5);
        due("what is in no rule", 0, x::refresh);
        x.setCondition(0, 1000);
        due("a condition that holds", 0, x::refresh);
        x.setCondition(0, 1001);
        due("one that does not", 3, x::refresh);
        x.addRule(2, -1, x.selector(x.compound(3, 0, 0, false)));
        due("a rule that matches none", 0, x::refresh);
        x.computedAnew(4, 0);
        x.isTrue();
        due("what is only asked", 0, x::refresh);
        due("8 in all", 8, x::styled);
    }

    // ---- what is shared

    private static void sharedWithTheOneAhead() {
        Cascadum x = new Cascadum();
        due("none", 0, x::shared);
        x.refresh();
        due("the root has no sibling", 0, x::shared);
        x.addElement(0, 0, 0, 0);
        x.refresh();
        due("the first child has none ahead", 0, x::shared);
        x.addElement(0, 1, 3, 63);
        x.refresh();
        due("the next one has, with no rules at all, as little as it", 1, x::shared);
        for (int i = 2; i < 29; i++) {
            x.addElement(0, i, 0, 0);
        }
        x.refresh();
        due("27 more", 28, x::shared);
        due("of 30", 30, x::styled);
    }

    private static void notShared() {
        Cascadum x = five();
        due("2 of 1, 3 of 2", 2, x::shared);
        x.setClasses(2, 3);
        x.refresh();
        due("one rule more", 2, x::shared);
        x.setClasses(2, 0);
        x.refresh();
        due("one rule less", 2, x::shared);
        x.setClasses(2, 1);
        x.setClasses(3, 2);
        x.moveElement(4, 0);
        x.refresh();
        due("2 of 1; 3 has another one", 3, x::shared);
        x.moveElement(3, 0);
        x.refresh();
        due("it is the same rule, but nothing is styled anew", 3, x::shared);
        x.alsoFor(1, x.selector(x.compound(-1, 2, 4, false)));
        x.setClasses(4, 6);
        x.refresh();
        due("another weight: 4 is as it was, 3 weighs more", 3, x::shared);
        x.setClasses(4, 2);
        x.refresh();
        due("4 weighs more, and has 2 ahead", 3, x::shared);
        x.setScope(1, 3);
        x.setClasses(0, 8);
        x.setClasses(3, 10);
        x.refresh();
        due("another nearness: 4 one step, 3 none", 3, x::shared);
        x.setClasses(3, 2);
        x.refresh();
        due("the same nearness", 4, x::shared);
    }

    private static void sharedFromOneNotStyledAnew() {
        Cascadum x = five();
        x.setClasses(2, 0);
        x.refresh();
        int before = x.shared();
        x.setClasses(2, 1);
        due("2 alone", 1, x::refresh);
        due("of 1, which is not styled anew", before + 1, x::shared);
        x.addElement(0, 0, 0, 1);
        due("the new one alone", 1, x::refresh);
        due("it has none ahead", before + 1, x::shared);
        x.setClasses(1, 0);
        x.refresh();
        x.setClasses(1, 1);
        due("1 alone", 1, x::refresh);
        due("of the new one", before + 2, x::shared);
    }

    private static void inAll() {
        Cascadum x = five();
        due("in all, those that took numbers included", 5, x::styled);
        x.setClasses(1, 0);
        x.refresh();
        due("one more", 6, x::styled);
        x.removeElement(3);
        due("those that are gone stay counted", 6, x::styled);
        x.refresh();
        due("nothing since", 6, x::styled);
    }

    private static void sumOfWidths() {
        Cascadum x = five();
        due("of all elements that are styled", 5000L, x::widths);
        x.addElement(0, 0, 0, 0);
        due("not of one that is not", 5000L, x::widths);
        x.removeElement(3);
        due("nor of those that are gone", 3000L, x::widths);
        x.setWindow(0);
        due("as of the last refresh()", 3000L, x::widths);
        x.refresh();
        due("each of them being 0", 0L, x::widths);
        x.setWindow(1);
        x.refresh();
        due("the new one included", 4L, x::widths);
    }

    private static void shares() {
        Cascadum x = five();
        due("2 of 5 as floats", 2.0f / 5.0f, x::sharedShare);
        due("5 by 1 as doubles", 5.0, x::meanStyled);
        x.setClasses(1, 0);
        x.refresh();
        due("2 of 6", 2.0f / 6.0f, x::sharedShare);
        due("6 by 2", 3.0, x::meanStyled);
        x.refresh();
        x.refresh();
        x.refresh();
        x.refresh();
        x.refresh();
        due("still 2 of 6", 2.0f / 6.0f, x::sharedShare);
        due("6 by 7", 6.0 / 7.0, x::meanStyled);
    }

    private static void truth() {
        Cascadum x = new Cascadum();
        due("true if there was no refresh()", true, x::isTrue);
        x.refresh();
        due("all numbers are those found anew", true, x::isTrue);
        x.declare(x.addRule(0, -1, x.selector(x.compound(-1, 0, 0, false))), 0, n(x, 3), false);
        due("true if a call that can change something was made", true, x::isTrue);
        due("the number is the old one", 0, () -> x.computed(0, 0));
        due("found anew it is another one", 3, () -> x.computedAnew(0, 0));
        due("isTrue() has styled nothing", 1, x::styled);
        due("nor shared", 0, x::shared);
        due("nor counted as a call", 1.0, x::meanStyled);
        due("so that this is still to do", 1, x::refresh);
        due("now it holds", true, x::isTrue);
        due("the number is the new one", 3, () -> x.computed(0, 0));
        refused("a call that throws changes nothing", ARGUMENT, () -> x.setWindow(5001));
        due("it still holds", true, x::isTrue);
    }

    private static void lastOfTheCalls() {
        Cascadum x = new Cascadum();
        for (int i = 0; i < 509; i++) {
            x.refresh();
        }
        due("the 510th call", 1, () -> x.addElement(0, 0, 0, 0));
        due("the 511th call", 1, x::refresh);
        due("the 512th call", 2.0 / 510.0, x::meanStyled);
    }

    /** Each call makes what is kept another thing than what is found anew, and isTrue() does not look at it then. */
    private static void truthBehindEachCall() {
        for (int i = 0; i < 13; i++) {
            int number = i;
            Cascadum x = changing();
            due("it holds ahead of the call " + i, true, x::isTrue);
            String before = colours(x);
            change(x, number);
            due("a call that can change something was made: " + i, true, x::isTrue);
            expect("nothing is styled by it: " + i, before, colours(x));
            x.refresh();
            expect("but by refresh(): " + i, "another one", before.equals(colours(x)) ? before : "another one");
            due("it holds behind it: " + i, true, x::isTrue);
        }
    }

    /** 1 is the second child of the root, and 2 is below it; what the rule 0 gives hangs on all that can be changed. */
    private static Cascadum changing() {
        Cascadum x = new Cascadum();
        x.addElement(0, 0, 0, 0);
        x.addElement(1, 0, 0, 0);
        x.addElement(0, 0, 1, 2);
        int second = x.compound(-1, 0, 0, false);
        x.place(second, 0, 2, 0);
        x.addRule(2, -1, x.selector(second));
        x.selector(x.compound(0, 0, 0, true));
        x.value('n', 7, 0);
        x.value('n', 8, 0);
        x.declare(0, 0, 0, false);
        x.declare(0, 3, 1, false);
        x.setContainer(0, true);
        x.setCondition(0, 1000);
        x.declare(x.addRule(2, -1, x.selector(x.compound(-1, 2, 0, false))), 0, 1, false);
        x.refresh();
        return x;
    }

    private static String colours(Cascadum x) {
        StringBuilder text = new StringBuilder();
        for (int i = 0; i < 3; i++) {
            int element = i;
            text.append(answer(() -> x.computed(element, 0))).append(' ');
            text.append(answer(() -> x.computed(element, 3))).append(' ');
        }
        return text.toString();
    }

    private static void change(Cascadum x, int number) {
        switch (number) {
            case 0 -> x.addElement(0, 0, 0, 0);
            case 1 -> x.removeElement(3);
            case 2 -> x.moveElement(3, 0);
            case 3 -> x.setContainer(0, false);
            case 4 -> x.setWindow(999);
            case 5 -> x.alsoFor(0, 1);
            case 6 -> x.setScope(0, 0);
            case 7 -> x.setCondition(0, 1001);
            case 8 -> x.declare(0, 0, 1, false);
            case 9 -> x.declareBox(0, -1, 0, false);
            case 10 -> x.dropDeclaration(0, 0);
            case 11 -> x.setClasses(1, 2);
            default -> x.moveElement(2, 0);
        }
    }
}
