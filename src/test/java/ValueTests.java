/** Promises 18 to 21, 25 and 26: values, declarations, and the numbers that they come to. */
public final class ValueTests extends Checks {
    public static void main(String[] args) {
        value();
        valueParts();
        declare();
        declareBox();
        declareBoxUntold();
        dropDeclaration();
        numbersAtFirst();
        computedRefuses();
        computedAnew();
        inheritance();
        fonts();
        percents();
        percentsThatCannotBe();
        sums();
        ownProperties();
        ownInRounds();
        fontAndOwn();
        turnedBack();
        turnedBackByLayers();
        turnedBackAmongAllLayers();
        turnedBackToTheAgent();
        nothingLeft();
        close("ValueTests");
    }

    /** A chain of elements 0, 1, 2, each with the class of its number; rule i matches the element i. */
    private static Cascadum chain() {
        Cascadum x = new Cascadum();
        x.setClasses(0, 1);
        x.addElement(0, 0, 0, 2);
        x.addElement(1, 0, 0, 4);
        for (int i = 0; i < 3; i++) {
            x.addRule(2, -1, x.selector(x.compound(-1, 1 << i, 0, false)));
        }
        return x;
    }

    private static int n(Cascadum x, int number) {
        return x.value('n', number, 0);
    }

    private static int e(Cascadum x, int number) {
        return x.value('e', number, 0);
    }

    private static int percent(Cascadum x, int number) {
        return x.value('%', number, 0);
    }

    private static int own(Cascadum x, int property, int other) {
        return x.value('v', property, other);
    }

    private static int bare(Cascadum x, char kind) {
        return x.value(kind, 0, 0);
    }

    private static int sum(Cascadum x, int one, int other) {
        return x.value('+', one, other);
    }

    private static void give(Cascadum x, int rule, int property, int value) {
        x.declare(rule, property, value, false);
    }

    private static void number(Cascadum x, String what, int element, int property, int want) {
        due(what, want, () -> x.computed(element, property));
        due(what + ", found anew", want, () -> x.computedAnew(element, property));
    }

    private static void none(Cascadum x, String what, int element, int property) {
        refused(what, NONE, () -> x.computed(element, property));
        refused(what + ", found anew", NONE, () -> x.computedAnew(element, property));
    }

    private static void value() {
        Cascadum x = new Cascadum();
        for (char kind : new char[] {'n', 'e', '%'}) {
            refused("18: 10000 for " + kind, ARGUMENT, () -> x.value(kind, 10000, 0));
            refused("18: -10000 for " + kind, ARGUMENT, () -> x.value(kind, -10000, 0));
        }
        for (char kind : new char[] {'z', 'N', 0, 65535, ' ', 'a'}) {
            refused("18: no such kind", ARGUMENT, () -> x.value(kind, 0, 0));
        }
        refused("18: the property 4", ARGUMENT, () -> x.value('v', 4, -1));
        refused("18: the property 8", ARGUMENT, () -> x.value('v', 8, -1));
        refused("18: the property is looked at ahead", ARGUMENT, () -> x.value('v', 4, 99));
        refused("18: no parts", INDEX, () -> x.value('+', 0, 0));
        due("18: the first one is 0", 0, () -> x.value('n', 9999, -77));
        due("18: the least number", 1, () -> x.value('n', -9999, 99));
        due("18: of no meaning", 2, () -> x.value('i', 99999, -99999));
        refused("18: no other value -2", INDEX, () -> x.value('v', 5, -2));
        refused("18: no other value 3", INDEX, () -> x.value('v', 7, 3));
        refused("18: no first part", INDEX, () -> x.value('+', 3, 0));
        refused("18: a first part below 0", INDEX, () -> x.value('+', -1, 0));
        refused("18: no second part", INDEX, () -> x.value('+', 0, 3));
        refused("18: a second part below 0", INDEX, () -> x.value('+', 0, -1));
        due("18: none that threw was made", 3, () -> x.value('e', 0, 0));
    }

    private static void valueParts() {
        Cascadum x = new Cascadum();
        int one = n(x, 1);
        for (char kind : new char[] {'i', 'o', 'u', 'r', 'l'}) {
            int bare = bare(x, kind);
            refused("18: no first part of the kind " + kind, IMPOSSIBLE, () -> x.value('+', bare, one));
            refused("18: no second part of the kind " + kind, IMPOSSIBLE, () -> x.value('+', one, bare));
            refused("18: no other value of the kind " + kind, IMPOSSIBLE, () -> x.value('v', 5, bare));
        }
        int three = sum(x, one, one);
        int seven = sum(x, three, three);
        int eleven = sum(x, seven, three);
        int twelve = own(x, 6, eleven);
        refused("18: 13 parts", IMPOSSIBLE, () -> x.value('v', 6, twelve));
        refused("18: 15 parts", IMPOSSIBLE, () -> x.value('+', seven, seven));
        refused("18: 13 parts by a sum", IMPOSSIBLE, () -> x.value('+', eleven, one));
        due("18: 'v' and 'e' can be parts", true, () -> sum(x, own(x, 5, -1), sum(x, e(x, 1), percent(x, 1))) > 0);
        while (x.value('n', 0, 0) < 79) {
            continue;
        }
        refused("18: there are 80", STATE, () -> x.value('n', 0, 0));
        refused("18: the parts are looked at ahead", IMPOSSIBLE, () -> x.value('+', eleven, one));
        refused("18: whether they are there, too", INDEX, () -> x.value('+', 80, one));
    }

    private static void declare() {
        Cascadum x = chain();
        int one = n(x, 1);
        refused("19: no such rule", INDEX, () -> x.declare(3, 0, one, false));
        refused("19: below 0", INDEX, () -> x.declare(-1, 0, one, false));
        refused("19: no such value", INDEX, () -> x.declare(0, 0, 1, false));
        refused("19: a value below 0", INDEX, () -> x.declare(0, 10, -1, false));
        refused("19: the property 10", ARGUMENT, () -> x.declare(0, 10, one, false));
        refused("19: the property -1", ARGUMENT, () -> x.declare(0, -1, one, false));
        for (int i = 0; i < 6; i++) {
            int want = i + 1;
            due("19: up to 6", want, () -> x.declare(0, want + 3, one, want == 6));
        }
        refused("19: it has 6", STATE, () -> x.declare(0, 0, one, false));
        refused("19: the property is looked at ahead", ARGUMENT, () -> x.declare(0, 10, one, false));
        x.refresh();
        for (int i = 4; i < 10; i++) {
            number(x, "19: each of them counts", 0, i, 1);
        }
        none(x, "19: reset and step are not inherited", 1, 9);
    }

    private static void declareBox() {
        Cascadum x = chain();
        int two = n(x, 2);
        int nine = n(x, 9);
        refused("20: no such rule", INDEX, () -> x.declareBox(3, two, two, false));
        refused("20: below 0", INDEX, () -> x.declareBox(-1, two, two, false));
        refused("20: no such width", INDEX, () -> x.declareBox(0, 2, two, false));
        refused("20: a width below -1", INDEX, () -> x.declareBox(0, -2, two, false));
        refused("20: no such margin", INDEX, () -> x.declareBox(0, two, 2, false));
        refused("20: a margin below -1", INDEX, () -> x.declareBox(0, two, -2, false));
        due("20: each being one", 2, () -> x.declareBox(0, two, nine, false));
        give(x, 0, 0, nine);
        give(x, 0, 0, two);
        x.dropDeclaration(0, 3);
        give(x, 0, 0, nine);
        due("20: four are not too many", 6, () -> x.declareBox(0, nine, two, true));
        x.refresh();
        number(x, "20: the important width", 0, 2, 9);
        number(x, "20: the important margin", 0, 3, 2);
        due("20: both are candidates", 2, () -> x.candidates(0, 2));
        x.dropDeclaration(0, 4);
        x.refresh();
        number(x, "20: the width comes first", 0, 2, 2);
        number(x, "20: the margin stays", 0, 3, 2);
        refused("20: it has more than 4", STATE, () -> x.declareBox(0, two, two, false));
        refused("20: the values are looked at ahead", INDEX, () -> x.declareBox(0, two, 2, false));
    }

    private static void declareBoxUntold() {
        Cascadum x = chain();
        int two = n(x, 2);
        give(x, 1, 2, two);
        give(x, 1, 3, two);
        due("20: the margin is not told", 4, () -> x.declareBox(1, two, -1, false));
        x.refresh();
        number(x, "20: it is what is at first", 1, 3, 0);
        number(x, "20: the width is as told", 1, 2, 2);
        due("20: the width is not told", 6, () -> x.declareBox(1, -1, two, false));
        x.refresh();
        none(x, "20: it is auto", 1, 2);
        number(x, "20: the margin is as told", 1, 3, 2);
        int next = n(x, 0);
        due("20: each of both calls made a value", two + 3, () -> next);
        while (x.value('n', 0, 0) < 79) {
            continue;
        }
        refused("20: there are 80 values", STATE, () -> x.declareBox(2, -1, two, false));
        refused("20: for the margin, too", STATE, () -> x.declareBox(2, two, -1, false));
        due("20: but both are told", 2, () -> x.declareBox(2, two, two, false));
    }

    private static void dropDeclaration() {
        Cascadum x = chain();
        refused("21: no such rule", INDEX, () -> x.dropDeclaration(3, 0));
        refused("21: below 0", INDEX, () -> x.dropDeclaration(-1, 0));
        refused("21: it has none", INDEX, () -> x.dropDeclaration(0, 0));
        for (int i = 0; i < 4; i++) {
            x.declare(0, i % 2 == 0 ? 0 : 4, n(x, i), i == 0);
        }
        refused("21: no such index", INDEX, () -> x.dropDeclaration(0, 4));
        refused("21: an index below 0", INDEX, () -> x.dropDeclaration(0, -1));
        x.refresh();
        number(x, "21: the important one", 0, 0, 0);
        due("21: three are left", 3, () -> x.dropDeclaration(0, 0));
        due("21: all is styled anew", 3, x::refresh);
        number(x, "21: the next one, not important", 0, 0, 2);
        number(x, "21: those behind come earlier", 0, 4, 3);
        due("21: two are left", 2, () -> x.dropDeclaration(0, 2));
        x.refresh();
        number(x, "21: the last one was dropped", 0, 4, 1);
        due("21: one is left", 1, () -> x.dropDeclaration(0, 0));
        due("21: none is left", 0, () -> x.dropDeclaration(0, 0));
        x.refresh();
        number(x, "21: what is at first", 0, 0, 0);
    }

    private static void numbersAtFirst() {
        Cascadum x = chain();
        x.refresh();
        for (int element = 0; element < 3; element++) {
            number(x, "25: the colour", element, 0, 0);
            number(x, "25: the font", element, 1, 16);
            none(x, "25: the width is auto", element, 2);
            number(x, "25: the margin", element, 3, 0);
            number(x, "25: the line", element, 4, 1);
            for (int property = 5; property < 10; property++) {
                none(x, "25: there is none of " + property, element, property);
            }
        }
    }

    private static void computedRefuses() {
        Cascadum x = chain();
        refused("25: no such element", INDEX, () -> x.computed(3, 10));
        refused("25: below 0", INDEX, () -> x.computed(-1, 0));
        refused("25: the property 10", ARGUMENT, () -> x.computed(0, 10));
        refused("25: the property -1", ARGUMENT, () -> x.computed(0, -1));
        refused("25: not styled yet", STATE, () -> x.computed(0, 2));
        refused("26: no such element", INDEX, () -> x.computedAnew(3, 10));
        refused("26: below 0", INDEX, () -> x.computedAnew(-1, 0));
        refused("26: the property 10", ARGUMENT, () -> x.computedAnew(0, 10));
        refused("26: the property -1", ARGUMENT, () -> x.computedAnew(0, -1));
        x.refresh();
        refused("25: none", NONE, () -> x.computed(0, 2));
        x.removeElement(2);
        refused("25: it was removed", STATE, () -> x.computed(2, 2));
        refused("26: it was removed", STATE, () -> x.computedAnew(2, 2));
        refused("25: the property is looked at ahead", ARGUMENT, () -> x.computed(2, 10));
        refused("26: the property is looked at ahead", ARGUMENT, () -> x.computedAnew(2, 10));
    }

    private static void computedAnew() {
        Cascadum x = chain();
        give(x, 1, 0, n(x, 7));
        due("26: ahead of any refresh()", 7, () -> x.computedAnew(2, 0));
        due("26: it styles nothing", 0, x::styled);
        refused("26: nor does it keep anything", STATE, () -> x.computed(2, 0));
        x.refresh();
        x.setClasses(1, 1);
        x.setWindow(300);
        give(x, 0, 2, percent(x, 50));
        due("26: the tree as it is now", 0, () -> x.computedAnew(2, 0));
        due("26: what is kept stays", 7, () -> x.computed(2, 0));
        due("26: the window as it is now", 75, () -> x.computedAnew(1, 2));
        x.setContainer(1, true);
        x.setCondition(2, 75);
        give(x, 2, 4, n(x, 8));
        due("26: widths of containers as they would be", 8, () -> x.computedAnew(2, 4));
        x.setCondition(2, 76);
        due("26: too narrow", 1, () -> x.computedAnew(2, 4));
        due("26: the width is as it was", 1000, () -> x.width(1));
        due("26: elements that are not styled yet", 3, () -> x.addElement(2, 0, 0, 4));
        due("26: found all the same", 1, () -> x.computedAnew(3, 4));
    }

    private static void inheritance() {
        Cascadum x = chain();
        int seven = n(x, 7);
        int[] given = {0, 3, 4, 5, 8};
        for (int property : given) {
            give(x, 0, property, seven);
        }
        x.refresh();
        for (int property : given) {
            boolean isInherited = property != 3 && property != 8;
            number(x, "25: where it is declared", 0, property, 7);
            if (isInherited) {
                number(x, "25: inherited down to 2", 2, property, 7);
            }
        }
        number(x, "25: the margin is not inherited", 1, 3, 0);
        none(x, "25: nor is the reset", 1, 8);
        give(x, 1, 3, bare(x, 'i'));
        give(x, 1, 8, bare(x, 'i'));
        give(x, 1, 0, bare(x, 'o'));
        give(x, 1, 5, bare(x, 'o'));
        give(x, 1, 4, bare(x, 'u'));
        give(x, 2, 3, bare(x, 'u'));
        give(x, 2, 0, bare(x, 'i'));
        give(x, 2, 2, bare(x, 'i'));
        give(x, 2, 5, bare(x, 'i'));
        x.refresh();
        number(x, "25: 'i' is that of the parent", 1, 3, 7);
        number(x, "25: for the reset, too", 1, 8, 7);
        number(x, "25: 'o' is what is at first", 1, 0, 0);
        none(x, "25: an own one is not there at first", 1, 5);
        number(x, "25: 'u' is 'i' for an inherited one", 1, 4, 7);
        number(x, "25: and 'o' otherwise", 2, 3, 0);
        number(x, "25: 'i' below 'o'", 2, 0, 0);
        none(x, "25: 'i' of auto", 2, 2);
        none(x, "25: 'i' of one that is not there", 2, 5);
        atTheRoot();
    }

    private static void atTheRoot() {
        Cascadum x = chain();
        for (int property = 0; property < 5; property++) {
            give(x, 0, property, bare(x, 'i'));
        }
        x.refresh();
        number(x, "25: 'i' at the root: the colour", 0, 0, 0);
        number(x, "25: 'i' at the root: the font", 0, 1, 16);
        none(x, "25: 'i' at the root: the width", 0, 2);
        number(x, "25: 'i' at the root: the margin", 0, 3, 0);
        number(x, "25: 'i' at the root: the line", 0, 4, 1);
    }

    private static void fonts() {
        Cascadum x = chain();
        give(x, 0, 1, e(x, 150));
        give(x, 0, 3, e(x, 50));
        give(x, 0, 8, e(x, -33));
        give(x, 1, 1, e(x, 99));
        give(x, 1, 0, e(x, 101));
        give(x, 2, 1, n(x, -7));
        give(x, 2, 4, e(x, 150));
        give(x, 2, 5, e(x, -150));
        x.refresh();
        number(x, "25: of 16 at the root", 0, 1, 24);
        number(x, "25: of the font at the root", 0, 3, 12);
        number(x, "25: cut towards 0", 0, 8, -7);
        number(x, "25: of that of the parent", 1, 1, 23);
        number(x, "25: of that of the element", 1, 0, 23);
        number(x, "25: of one below 0", 2, 4, -10);
        number(x, "25: twice below 0", 2, 5, 10);
    }

    private static void percents() {
        Cascadum x = chain();
        give(x, 0, 2, percent(x, 50));
        give(x, 0, 1, percent(x, 200));
        give(x, 1, 3, percent(x, -33));
        give(x, 2, 2, percent(x, 10));
        give(x, 2, 1, percent(x, 50));
        x.setWindow(333);
        x.refresh();
        number(x, "25: of the window at the root", 0, 2, 166);
        number(x, "25: as 'e' for the font", 0, 1, 32);
        number(x, "25: of the width of the parent, cut towards 0", 1, 3, -54);
        due("27: auto less 2 times a margin below 0", 274, () -> x.width(1));
        number(x, "25: of a width that is auto", 2, 2, 27);
        number(x, "25: half of the font of the parent", 2, 1, 16);
        give(x, 1, 2, n(x, -80));
        x.refresh();
        due("27: never below 0", 0, () -> x.width(1));
        number(x, "25: the number is as it is", 1, 2, -80);
        number(x, "25: but the width counts for those below", 2, 2, 0);
    }

    private static void percentsThatCannotBe() {
        Cascadum x = chain();
        int five = n(x, 5);
        for (int property : new int[] {0, 4, 5, 8, 9}) {
            give(x, 0, property, five);
        }
        int half = percent(x, 50);
        int part = sum(x, five, half);
        int other = own(x, 5, half);
        give(x, 1, 0, half);
        give(x, 1, 4, part);
        give(x, 1, 8, half);
        give(x, 1, 9, other);
        give(x, 1, 5, sum(x, own(x, 5, -1), half));
        give(x, 1, 6, own(x, 5, -1));
        give(x, 2, 0, other);
        give(x, 2, 3, other);
        give(x, 2, 5, bare(x, 'o'));
        give(x, 2, 2, sum(x, own(x, 7, half), five));
        x.refresh();
        number(x, "25: for the colour it is as 'u'", 1, 0, 5);
        number(x, "25: in part, for the line", 1, 4, 5);
        none(x, "25: for the reset", 1, 8);
        none(x, "25: for the step, in a part that is not asked", 1, 9);
        number(x, "25: for an own one, which leads to nothing then", 1, 5, 5);
        number(x, "25: and which others can ask for", 1, 6, 5);
        number(x, "25: as the other value of a colour", 2, 0, 5);
        number(x, "25: as the other value of a margin", 2, 3, 500);
        number(x, "25: as a part of a width", 2, 2, 505);
    }

    private static void sums() {
        Cascadum x = chain();
        int big = n(x, 9999);
        int font = e(x, 9999);
        give(x, 0, 1, sum(x, sum(x, big, font), big));
        give(x, 0, 3, sum(x, n(x, -7), sum(x, e(x, 1), e(x, 1))));
        give(x, 1, 1, font);
        give(x, 1, 0, e(x, -9999));
        give(x, 2, 3, sum(x, sum(x, font, font), e(x, -50)));
        give(x, 2, 0, sum(x, e(x, -9999), n(x, -1)));
        x.refresh();
        number(x, "25: the sum of three", 0, 1, 21597);
        number(x, "25: each part cut by itself", 0, 3, 423);
        number(x, "25: held from above", 1, 1, 999999);
        number(x, "25: held from below", 1, 0, -999999);
        number(x, "25: each part is held", 2, 3, 500000);
        number(x, "25: the sum is held, too", 2, 0, -999999);
    }

    private static void ownProperties() {
        Cascadum x = chain();
        int forty = n(x, 40);
        give(x, 0, 5, forty);
        give(x, 0, 6, own(x, 5, -1));
        give(x, 0, 7, sum(x, own(x, 6, -1), e(x, 100)));
        give(x, 0, 0, own(x, 7, -1));
        give(x, 1, 6, own(x, 7, n(x, 1)));
        give(x, 1, 7, own(x, 6, n(x, 2)));
        give(x, 1, 0, own(x, 6, n(x, 3)));
        give(x, 1, 3, own(x, 6, -1));
        give(x, 1, 4, own(x, 7, own(x, 6, own(x, 5, -1))));
        give(x, 2, 5, bare(x, 'o'));
        give(x, 2, 6, own(x, 5, -1));
        give(x, 2, 7, own(x, 6, forty));
        give(x, 2, 0, sum(x, own(x, 6, -1), forty));
        give(x, 2, 4, own(x, 7, own(x, 6, -1)));
        x.refresh();
        number(x, "25: of an own one", 0, 6, 40);
        number(x, "25: 'e' by the font of the element", 0, 7, 56);
        number(x, "25: another property by it", 0, 0, 56);
        none(x, "25: in a ring", 1, 6);
        none(x, "25: for all of these", 1, 7);
        number(x, "25: the other value", 1, 0, 3);
        number(x, "25: 'u' for one that is not inherited", 1, 3, 0);
        number(x, "25: others within others", 1, 4, 40);
        none(x, "25: one that asks for one that is not there", 2, 6);
        number(x, "25: which is not there for others", 2, 7, 40);
        number(x, "25: a sum with it is as 'u'", 2, 0, 3);
        number(x, "25: the other value is not asked for", 2, 4, 40);
        ownRings();
        ownThatFail();
        othersWithinOthers();
    }

    private static void othersWithinOthers() {
        Cascadum x = chain();
        int last = n(x, 77);
        for (int i = 0; i < 11; i++) {
            last = own(x, 5 + i % 3, last);
        }
        give(x, 1, 0, last);
        give(x, 1, 5, bare(x, 'o'));
        give(x, 2, 6, n(x, 66));
        give(x, 2, 0, last);
        x.refresh();
        number(x, "25: twelve parts deep", 1, 0, 77);
        number(x, "25: the first one that is there", 2, 0, 66);
    }

    private static void ownThatFail() {
        Cascadum x = chain();
        give(x, 0, 6, n(x, 4));
        give(x, 0, 7, n(x, 5));
        give(x, 1, 5, n(x, 6));
        give(x, 2, 5, bare(x, 'o'));
        give(x, 2, 6, own(x, 5, -1));
        give(x, 2, 7, sum(x, own(x, 5, -1), n(x, 1)));
        x.refresh();
        none(x, "25: one that asks for nothing is not there, though the parent has it", 2, 6);
        none(x, "25: nor is a sum with nothing", 2, 7);
        number(x, "25: the parent has it", 1, 7, 5);
    }

    private static void ownRings() {
        Cascadum x = chain();
        int four = n(x, 4);
        for (int property = 5; property < 8; property++) {
            give(x, 0, property, four);
        }
        give(x, 1, 5, own(x, 5, four));
        give(x, 1, 6, own(x, 7, own(x, 5, four)));
        give(x, 2, 5, own(x, 6, four));
        give(x, 2, 6, sum(x, own(x, 7, -1), four));
        give(x, 2, 7, own(x, 5, -1));
        x.refresh();
        none(x, "25: to itself in one step, not inherited", 1, 5);
        number(x, "25: led to a ring, but not in it", 1, 6, 4);
        number(x, "25: not in it at all", 1, 7, 4);
        for (int property = 5; property < 8; property++) {
            none(x, "25: a ring of three", 2, property);
        }
        x.dropDeclaration(2, 2);
        give(x, 2, 7, own(x, 6, -1));
        x.refresh();
        number(x, "25: one that leads to a ring has its other value", 2, 5, 4);
        none(x, "25: the ring", 2, 6);
        x.dropDeclaration(2, 2);
        give(x, 2, 7, own(x, 5, own(x, 6, -1)));
        x.refresh();
        none(x, "25: a ring by another value alone", 2, 6);
    }

    private static void ownInRounds() {
        for (int turn = 0; turn < 6; turn++) {
            int first = 5 + turn % 3;
            int second = 5 + (turn + 1 + turn / 3) % 3;
            int third = 18 - first - second;
            Cascadum x = chain();
            give(x, 1, first, own(x, second, n(x, 1)));
            give(x, 1, second, sum(x, own(x, third, n(x, 2)), n(x, 3)));
            give(x, 1, third, n(x, 50));
            x.refresh();
            number(x, "25: whichever leads to which", 1, first, 53);
            give(x, 2, third, e(x, 25));
            give(x, 2, second, own(x, third, -1));
            give(x, 2, first, sum(x, own(x, second, -1), own(x, third, -1)));
            x.refresh();
            number(x, "25: by the font, too", 2, first, 8);
        }
    }

    private static void fontAndOwn() {
        Cascadum x = chain();
        give(x, 0, 5, n(x, 30));
        give(x, 0, 6, e(x, 100));
        give(x, 0, 1, sum(x, own(x, 5, -1), own(x, 6, n(x, 2))));
        give(x, 0, 0, own(x, 6, -1));
        give(x, 1, 7, own(x, 5, e(x, 1)));
        give(x, 1, 1, own(x, 7, n(x, 9)));
        give(x, 1, 4, own(x, 7, -1));
        give(x, 2, 5, own(x, 6, -1));
        give(x, 2, 6, sum(x, e(x, 200), n(x, 1)));
        give(x, 2, 7, n(x, 12));
        give(x, 2, 1, own(x, 5, own(x, 6, own(x, 7, -1))));
        x.refresh();
        number(x, "25: one without 'e' is there for the font, one with is not", 0, 1, 32);
        number(x, "25: but it is there for others", 0, 6, 32);
        number(x, "25: as it is", 0, 0, 32);
        number(x, "25: an 'e' in another value counts, though it is not asked for", 1, 1, 9);
        number(x, "25: for others it is there", 1, 4, 30);
        number(x, "25: nor one that leads to such a one", 2, 1, 12);
        number(x, "25: it waits for the font", 2, 5, 25);
        fontInherits();
    }

    private static void fontInherits() {
        Cascadum x = chain();
        give(x, 0, 6, e(x, 50));
        give(x, 0, 1, n(x, 20));
        give(x, 1, 1, own(x, 6, n(x, 3)));
        give(x, 2, 6, e(x, 100));
        give(x, 2, 1, own(x, 6, -1));
        give(x, 2, 5, sum(x, e(x, 100), percent(x, 100)));
        x.refresh();
        number(x, "25: an inherited one has no 'e' of its own", 1, 1, 10);
        number(x, "25: nothing for the font is 'u'", 2, 1, 10);
        number(x, "25: and then the own one is by that font", 2, 6, 10);
        x.dropDeclaration(2, 1);
        give(x, 2, 1, own(x, 5, n(x, 3)));
        give(x, 0, 5, n(x, 77));
        x.refresh();
        number(x, "25: one that is as 'u' has no 'e'", 2, 1, 77);
    }

    private static void turnedBack() {
        Cascadum x = chain();
        int all = x.selector(x.compound(1, 0, 0, false));
        x.addElement(0, 1, 1, 0);
        int agent = x.addRule(0, -1, all);
        int user = x.addRule(1, -1, all);
        int author = x.addRule(2, -1, all);
        int back = bare(x, 'r');
        give(x, 0, 0, n(x, 9));
        give(x, agent, 0, n(x, 1));
        give(x, user, 0, n(x, 2));
        give(x, author, 0, n(x, 3));
        give(x, author, 0, back);
        x.refresh();
        number(x, "25: 'r' leaves the origin out", 3, 0, 2);
        give(x, user, 0, back);
        x.refresh();
        number(x, "25: and once more", 3, 0, 1);
        x.declare(user, 0, n(x, 4), true);
        x.refresh();
        number(x, "25: an important one wins", 3, 0, 4);
        x.declare(user, 0, back, true);
        x.refresh();
        number(x, "25: important ones of the origin are left out, too", 3, 0, 1);
        due("28: the winner is the one that turns back", user, () -> x.winner(3, 0));
        x.declare(agent, 0, back, true);
        x.refresh();
        number(x, "25: nothing is left: as 'u'", 3, 0, 9);
        number(x, "25: others are as they were", 2, 0, 9);
    }

    private static void turnedBackByLayers() {
        Cascadum x = chain();
        x.addElement(0, 1, 1, 0);
        int all = x.selector(x.compound(1, 0, 0, false));
        int outer = x.addLayer(2, -1);
        int inner = x.addLayer(2, outer);
        int user = x.addRule(1, -1, all);
        int bottom = x.addRule(2, inner, all);
        int middle = x.addRule(2, outer, all);
        int top = x.addRule(2, -1, all);
        int back = bare(x, 'l');
        give(x, user, 0, n(x, 5));
        give(x, bottom, 0, n(x, 1));
        give(x, middle, 0, n(x, 2));
        give(x, top, 0, n(x, 3));
        give(x, top, 0, back);
        x.refresh();
        number(x, "25: 'l' leaves out what is in no layer of the origin", 3, 0, 2);
        give(x, middle, 0, back);
        x.refresh();
        number(x, "25: a layer within is another one", 3, 0, 1);
        give(x, bottom, 0, back);
        x.refresh();
        number(x, "25: then the next origin, of which no layer is left out", 3, 0, 5);
        x.declare(middle, 0, n(x, 6), true);
        x.refresh();
        number(x, "25: an important one of a layer", 3, 0, 6);
        x.declare(bottom, 0, back, true);
        x.refresh();
        number(x, "25: a layer within is left out alone", 3, 0, 6);
        x.declare(middle, 0, bare(x, 'r'), true);
        x.refresh();
        number(x, "25: 'r' leaves out what 'l' has left", 3, 0, 5);
        x.declare(user, 0, back, true);
        x.refresh();
        number(x, "25: 'l' of the user", 3, 0, 3 - 3);
    }

    /** All eight layers are there, and what is in no layer of an origin is apart from each of them. */
    private static void turnedBackAmongAllLayers() {
        for (int layer = 0; layer < 8; layer++) {
            Cascadum x = chain();
            for (int i = 0; i < 8; i++) {
                x.addLayer(i < 3 ? 0 : i < 6 ? 1 : 2, -1);
            }
            int origin = layer < 3 ? 0 : layer < 6 ? 1 : 2;
            int in = x.addRule(origin, layer, 1);
            int free = x.addRule(origin, -1, 1);
            give(x, in, 0, n(x, 33));
            give(x, free, 0, bare(x, 'l'));
            give(x, 1, 0, bare(x, 'r'));
            if (origin < 2) {
                give(x, 1, 4, bare(x, 'r'));
                give(x, in, 4, n(x, 44));
            }
            x.refresh();
            number(x, "25: 'l', with 'r' ahead of it or behind, then the layer " + layer, 1, 0, 33);
            number(x, "25: 'r', then the layer " + layer, 1, 4, origin < 2 ? 44 : 1);
            x.dropDeclaration(1, 0);
            x.refresh();
            number(x, "25: 'l', then the layer " + layer, 1, 0, 33);
        }
    }

    private static void turnedBackToTheAgent() {
        Cascadum x = chain();
        int agent = x.addRule(0, -1, 1);
        give(x, agent, 0, n(x, 7));
        give(x, 1, 0, bare(x, 'l'));
        x.refresh();
        number(x, "25: 'l' of the author, then the agent", 1, 0, 7);
    }

    private static void nothingLeft() {
        Cascadum x = chain();
        give(x, 0, 0, n(x, 8));
        give(x, 0, 3, n(x, 8));
        give(x, 0, 5, n(x, 8));
        give(x, 1, 0, bare(x, 'r'));
        give(x, 1, 3, bare(x, 'r'));
        give(x, 1, 5, bare(x, 'l'));
        give(x, 1, 2, bare(x, 'l'));
        x.refresh();
        number(x, "25: 'r' with nothing left, inherited", 1, 0, 8);
        number(x, "25: 'r' with nothing left, not inherited", 1, 3, 0);
        number(x, "25: 'l' with nothing left, an own one", 1, 5, 8);
        none(x, "25: 'l' with nothing left, the width", 1, 2);
    }
}
