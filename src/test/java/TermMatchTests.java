/** The sentences of "Terms" that name a bound or an edge: what lies just on each side of it. */
public final class TermMatchTests extends Checks {
    public static void main(String[] args) {
        elementsAreNumbered();
        goneWithAllBelow();
        classesOfACompound();
        tagsOfACompound();
        withoutChildren();
        placesByStep();
        placesByFirst();
        placesByClasses();
        placeOfTheRoot();
        somethingBelow();
        rowsOfCompounds();
        joints();
        jointsAtTheRoot();
        weights();
        greatestWeight();
        scopes();
        nearnessWithoutAScope();
        conditions();
        conditionsWithoutAContainer();
        widthInThisRefresh();
        layersWithin();
        close("TermMatchTests");
    }

    // ---- what the tests share

    private static Cascadum rowOf(int count) {
        Cascadum x = new Cascadum();
        for (int i = 0; i < count; i++) {
            x.addElement(0, i, 0, 0);
        }
        return x;
    }

    private static Cascadum chainOf(int count) {
        Cascadum x = new Cascadum();
        for (int i = 0; i < count; i++) {
            x.addElement(i, 0, 0, 0);
        }
        return x;
    }

    private static int bare(Cascadum x) {
        return x.compound(-1, 0, 0, false);
    }

    private static int withClasses(Cascadum x, int classes) {
        return x.compound(-1, classes, 0, false);
    }

    private static int n(Cascadum x, int number) {
        return x.value('n', number, 0);
    }

    private static int joined(Cascadum x, int first, String ways, int... others) {
        int selector = x.selector(first);
        for (int i = 0; i < others.length; i++) {
            x.join(selector, ways.charAt(i), others[i]);
        }
        return selector;
    }

    /** The elements that a selector matches, of those from 0 to one less than the count. */
    private static String matched(Cascadum x, int selector, int count) {
        StringBuilder text = new StringBuilder();
        for (int i = 0; i < count; i++) {
            text.append(x.matches(selector, i) ? " " + i : "");
        }
        return text.toString().trim();
    }

    private static int placed(Cascadum x, int step, int first, int classes) {
        int part = bare(x);
        x.place(part, step, first, classes);
        return x.selector(part);
    }

    /** A rule for all with one declaration. */
    private static int ruleForAll(Cascadum x, int property, int number) {
        int rule = x.addRule(2, -1, x.selector(bare(x)));
        x.declare(rule, property, n(x, number), false);
        return rule;
    }

    // ---- elements

    private static void elementsAreNumbered() {
        Cascadum x = new Cascadum();
        due("numbered by the order in which they were made", 1, () -> x.addElement(0, 0, 0, 0));
        due("the place has no part in it", 2, () -> x.addElement(0, 0, 0, 0));
        x.removeElement(1);
        due("nor has what was removed", 3, () -> x.addElement(0, 0, 0, 0));
        x.moveElement(2, 3);
        due("nor has what was moved", 4, () -> x.addElement(2, 0, 0, 0));
        Cascadum y = rowOf(28);
        due("at most 30 are made: the 30th", 29, () -> y.addElement(0, 0, 0, 0));
        refused("at most 30 are made: no 31st", STATE, () -> y.addElement(0, 0, 0, 0));
        y.removeElement(29);
        refused("at most 30 are made, not: are there", STATE, () -> y.addElement(0, 0, 0, 0));
    }

    private static void goneWithAllBelow() {
        Cascadum x = chainOf(4);
        x.addElement(2, 1, 0, 0);
        x.addElement(1, 1, 0, 0);
        x.refresh();
        due("gone with all below it: 2, 3, 4 and 5", 4, () -> x.removeElement(2));
        for (int i = 2; i < 6; i++) {
            int element = i;
            refused("gone " + i, STATE, () -> x.computed(element, 0));
        }
        due("not what is above it", 0, () -> x.computed(1, 0));
        due("nor what is beside it", 0, () -> x.computed(6, 0));
        due("nor is it counted among the siblings", true, () -> x.matches(placed(x, 0, 1, 0), 6));
    }

    // ---- compounds

    private static void classesOfACompound() {
        Cascadum x = rowOf(3);
        x.setClasses(1, 63);
        x.setClasses(2, 31);
        x.setClasses(3, 32);
        int all = x.selector(withClasses(x, 63));
        int none = x.selector(x.compound(-1, 0, 63, false));
        int last = x.selector(withClasses(x, 32));
        int not = x.selector(x.compound(-1, 0, 32, false));
        int both = x.selector(x.compound(-1, 1, 1, false));
        int any = x.selector(bare(x));
        due("classes that are all there, all of them", "1", () -> matched(x, all, 4));
        due("classes of which none is there, all of them", "0", () -> matched(x, none, 4));
        due("the last class", "1 3", () -> matched(x, last, 4));
        due("not the last class", "0 2", () -> matched(x, not, 4));
        due("a class that is there and is not", "", () -> matched(x, both, 4));
        due("no classes are asked for", "0 1 2 3", () -> matched(x, any, 4));
    }

    private static void tagsOfACompound() {
        Cascadum x = new Cascadum();
        for (int i = 1; i < 5; i++) {
            x.addElement(0, 0, i % 4, 0);
        }
        for (int tag = 0; tag < 4; tag++) {
            int selector = x.selector(x.compound(tag, 0, 0, false));
            due("the tag " + tag, tag == 0 ? "0 4" : String.valueOf(tag), () -> matched(x, selector, 5));
        }
        int any = x.selector(bare(x));
        due("-1 for any", "0 1 2 3 4", () -> matched(x, any, 5));
    }

    private static void withoutChildren() {
        Cascadum x = chainOf(2);
        int empty = x.selector(x.compound(-1, 0, 0, true));
        int any = x.selector(bare(x));
        due("being without children", "2", () -> matched(x, empty, 3));
        due("not asked for", "0 1 2", () -> matched(x, any, 3));
        x.moveElement(2, 0);
        due("one that has moved away is no child", "1 2", () -> matched(x, empty, 3));
        x.removeElement(1);
        x.removeElement(2);
        due("nor is one that was removed", true, () -> x.matches(empty, 0));
    }

    private static void placesByStep() {
        Cascadum x = rowOf(29);
        String[] want = {
            "0 1", "0 1 2 3 4 5 6 7 8 9 10 11 12 13 14 15 16 17 18 19 20 21 22 23 24 25 26 27 28 29",
            "0 1 3 5 7 9 11 13 15 17 19 21 23 25 27 29", "0 1 4 7 10 13 16 19 22 25 28",
            "0 1 5 9 13 17 21 25 29", "0 1 6 11 16 21 26"};
        for (int step = 0; step <= 5; step++) {
            int selector = placed(x, step, 1, 0);
            due("the first one plus the step " + step + " times some number from 0 on", want[step],
                    () -> matched(x, selector, 30));
        }
    }

    private static void placesByFirst() {
        Cascadum x = rowOf(29);
        int once = placed(x, 0, 9, 0);
        int all = placed(x, 1, 9, 0);
        int fifth = placed(x, 5, 9, 0);
        due("the ninth one alone", "9", () -> matched(x, once, 30));
        due("none ahead of the first one", "9 10 11 12 13 14 15 16 17 18 19 20 21 22 23 24 25 26 27 28 29",
                () -> matched(x, all, 30));
        due("from the ninth one on each fifth", "9 14 19 24 29", () -> matched(x, fifth, 30));
        Cascadum y = rowOf(29);
        int third = placed(y, 2, 3, 0);
        due("1 is the third one less the step, which is no place", "3 5 7 9 11 13 15 17 19 21 23 25 27 29",
                () -> matched(y, third, 30));
        int eighth = placed(y, 0, 8, 0);
        due("the eighth one", "8", () -> matched(y, eighth, 30));
    }

    private static void placesByClasses() {
        Cascadum x = rowOf(6);
        int[] classes = {1, 3, 2, 3, 0, 7};
        for (int i = 0; i < 6; i++) {
            x.setClasses(i + 1, classes[i]);
        }
        int secondOfBoth = placed(x, 0, 2, 3);
        int secondOfOne = placed(x, 0, 2, 1);
        int oddOfOther = placed(x, 2, 1, 2);
        int ofAll = placed(x, 0, 1, 63);
        due("those are counted that have them all", "4", () -> matched(x, secondOfBoth, 7));
        due("itself included, up to it", "2", () -> matched(x, secondOfOne, 7));
        due("the element has all of these", "2 4", () -> matched(x, oddOfOther, 7));
        due("none has all six", "", () -> matched(x, ofAll, 7));
        x.setClasses(5, 63);
        due("one has all six", "5", () -> matched(x, ofAll, 7));
        x.addElement(1, 0, 0, 2);
        due("those elsewhere are no siblings", true, () -> x.matches(oddOfOther, 7));
    }

    private static void placeOfTheRoot() {
        Cascadum x = rowOf(1);
        for (int step = 0; step <= 5; step += 5) {
            for (int first = 1; first <= 9; first++) {
                int selector = placed(x, step, first, 0);
                boolean isFirst = first == 1;
                due("the root counts as the only one of its siblings: " + step + ", " + first, isFirst,
                        () -> x.matches(selector, 0));
            }
        }
        int ofAClass = placed(x, 0, 1, 32);
        due("it has not the class", false, () -> x.matches(ofAClass, 0));
        x.setClasses(0, 32);
        due("it has the class", true, () -> x.matches(ofAClass, 0));
        x.setClasses(1, 32);
        due("its children are no siblings of it", "0 1", () -> matched(x, ofAClass, 2));
    }

    private static void somethingBelow() {
        Cascadum x = chainOf(29);
        x.setClasses(29, 63);
        int all = bare(x);
        x.below(all, 63);
        int far = x.selector(all);
        due("29 steps below", true, () -> x.matches(far, 0));
        due("one step below", true, () -> x.matches(far, 28));
        due("itself is not below it", false, () -> x.matches(far, 29));
        x.setClasses(29, 31);
        due("one class is missing", false, () -> x.matches(far, 28));
        x.setClasses(28, 32);
        due("another element has it", false, () -> x.matches(far, 0));
        x.setClasses(28, 63);
        due("the one above it has all", true, () -> x.matches(far, 27));
        due("but that is not below itself", false, () -> x.matches(far, 28));
        Cascadum y = rowOf(2);
        y.setClasses(1, 1);
        y.setClasses(2, 2);
        int two = bare(y);
        y.below(two, 3);
        int apart = y.selector(two);
        due("some element has all, not two of them", "", () -> matched(y, apart, 3));
        y.setClasses(2, 3);
        due("now one has", "0", () -> matched(y, apart, 3));
    }

    // ---- selectors

    private static void rowsOfCompounds() {
        Cascadum x = chainOf(4);
        for (int i = 0; i < 5; i++) {
            x.setClasses(i, 1 << i);
            withClasses(x, 1 << i);
        }
        int one = x.selector(4);
        int four = joined(x, 1, ">>>", 2, 3, 4);
        int broken = joined(x, 0, ">>>", 2, 3, 4);
        due("a row of one compound", "4", () -> matched(x, one, 5));
        due("a row of four", "4", () -> matched(x, four, 5));
        due("the first of four counts, too", "", () -> matched(x, broken, 5));
        refused("no fifth compound", STATE, () -> x.join(four, '>', 4));
        due("it matches as it did", "4", () -> matched(x, four, 5));
        due("and weighs as much", 40, () -> x.weight(four));
    }

    private static void joints() {
        Cascadum x = rowOf(3);
        x.addElement(1, 0, 0, 0);
        x.addElement(4, 0, 0, 0);
        x.setClasses(1, 1);
        int one = withClasses(x, 1);
        int any = bare(x);
        int above = joined(x, one, " ", any);
        int parent = joined(x, one, ">", any);
        int ahead = joined(x, one, "+", any);
        int earlier = joined(x, one, "~", any);
        due("' ', the first one is above the second one, by one step or two", "4 5", () -> matched(x, above, 6));
        due("'>', it is its parent, by one step alone", "4", () -> matched(x, parent, 6));
        due("'+', it is the sibling just ahead", "2", () -> matched(x, ahead, 6));
        due("'~', it is a sibling ahead", "2 3", () -> matched(x, earlier, 6));
        x.moveElement(1, 0);
        due("'+', none is behind it", "", () -> matched(x, ahead, 6));
        due("'~', none is behind it", "", () -> matched(x, earlier, 6));
        Cascadum y = chainOf(29);
        y.setClasses(0, 1);
        int top = withClasses(y, 1);
        int last = y.compound(-1, 0, 0, true);
        int far = joined(y, top, " ", last);
        due("' ', 29 steps", "29", () -> matched(y, far, 30));
        Cascadum z = rowOf(29);
        z.setClasses(1, 1);
        z.setClasses(29, 2);
        int late = joined(z, withClasses(z, 1), "~", withClasses(z, 2));
        due("'~', 28 siblings on", "29", () -> matched(z, late, 30));
    }

    private static void jointsAtTheRoot() {
        Cascadum x = rowOf(1);
        int any = bare(x);
        for (char way : " >+~".toCharArray()) {
            int pair = joined(x, any, String.valueOf(way), any);
            String want = way == ' ' || way == '>' ? "1" : "";
            due("the root has none above it and none ahead: '" + way + "'", want, () -> matched(x, pair, 2));
        }
        x.addElement(0, 1, 0, 0);
        int next = joined(x, any, "+", any);
        due("the second child has one ahead", "2", () -> matched(x, next, 3));
    }

    private static int weightOf(int tag, int classes, int without, boolean isEmpty, int below) {
        Cascadum x = new Cascadum();
        int part = x.compound(tag, classes, without, isEmpty);
        x.below(part, below);
        return x.weight(x.selector(part));
    }

    private static int weightOfPlace(int step, int first, int classes) {
        Cascadum x = new Cascadum();
        return x.weight(placed(x, step, first, classes));
    }

    private static void weights() {
        due("nothing is asked for", 0, () -> weightOf(-1, 0, 0, false, 0));
        due("1 for a tag, for 0 too", 1, () -> weightOf(0, 0, 0, false, 0));
        due("1 for the tag 3", 1, () -> weightOf(3, 0, 0, false, 0));
        due("10 for a class", 10, () -> weightOf(-1, 32, 0, false, 0));
        due("10 for each class", 60, () -> weightOf(-1, 63, 0, false, 0));
        due("10 if there is a class of which none is there", 10, () -> weightOf(-1, 0, 1, false, 0));
        due("not for each of them", 10, () -> weightOf(-1, 0, 63, false, 0));
        due("10 for a place", 10, () -> weightOfPlace(0, 1, 0));
        due("whatever place", 10, () -> weightOfPlace(5, 9, 0));
        due("10 for each of its classes", 20, () -> weightOfPlace(0, 1, 32));
        due("10 for all of its classes", 70, () -> weightOfPlace(0, 1, 63));
        due("10 for a class of something below", 10, () -> weightOf(-1, 0, 0, false, 32));
        due("10 for each", 60, () -> weightOf(-1, 0, 0, false, 63));
        due("10 for being without children", 10, () -> weightOf(-1, 0, 0, true, 0));
        Cascadum x = new Cascadum();
        int full = x.compound(3, 63, 63, true);
        x.place(full, 5, 9, 63);
        x.below(full, 63);
        int one = x.selector(full);
        due("all of a compound", 211, () -> x.weight(one));
        x.join(one, ' ', full);
        x.join(one, ' ', full);
        due("three of them", 633, () -> x.weight(one));
        x.join(one, ' ', full);
        due("the sum of those of its compounds", 844, () -> x.weight(one));
    }

    // ---- rules

    private static void greatestWeight() {
        Cascadum x = rowOf(2);
        x.setClasses(1, 1);
        int light = x.selector(bare(x));
        int middle = x.selector(x.compound(0, 0, 0, false));
        int heavy = x.selector(withClasses(x, 1));
        int many = x.addRule(2, -1, middle);
        x.alsoFor(many, heavy);
        due("a list of at most 3: the third", 3, () -> x.alsoFor(many, light));
        refused("a list of at most 3: no fourth", STATE, () -> x.alsoFor(many, light));
        int between = x.addRule(2, -1, x.selector(x.compound(0, 0, 63, false)));
        x.alsoFor(between, middle);
        x.declare(many, 3, n(x, 1), false);
        x.declare(between, 3, n(x, 2), false);
        x.refresh();
        due("its weight there is the greatest of those that match: 10, not 1", many, () -> x.winner(1, 3));
        due("where 10 does not match, 1 is less than 11", between, () -> x.winner(2, 3));
        x.setClasses(1, 3);
        x.refresh();
        due("behind it as before", between, () -> x.candidateAt(1, 3, 1));
        due("both match", 2, () -> x.candidates(1, 3));
    }

    private static void scopes() {
        for (int scope = 0; scope <= 5; scope++) {
            Cascadum x = chainOf(3);
            int rule = ruleForAll(x, 3, 7);
            x.setScope(rule, scope);
            x.setClasses(1, 1 << scope);
            x.setClasses(3, 63 - (1 << scope));
            x.refresh();
            due("not above the class " + scope, 0, () -> x.computed(0, 3));
            due("on the one that has it, 0 steps up", 7, () -> x.computed(1, 3));
            due("one step up", 7, () -> x.computed(2, 3));
            due("other classes are none", 7, () -> x.computed(3, 3));
            x.setClasses(1, 63 - (1 << scope));
            x.refresh();
            for (int i = 0; i < 4; i++) {
                int element = i;
                due("none has it", 0, () -> x.computed(element, 3));
            }
        }
        nearest();
    }

    private static void nearest() {
        Cascadum x = chainOf(3);
        x.setClasses(0, 1);
        x.setClasses(2, 2);
        int near = ruleForAll(x, 3, 1);
        int far = ruleForAll(x, 3, 2);
        x.setScope(near, 1);
        x.setScope(far, 0);
        x.refresh();
        due("1 step up is nearer than 3", near, () -> x.winner(3, 3));
        x.setClasses(3, 1);
        x.refresh();
        due("the nearest one counts, and 0 is nearer than 1", far, () -> x.winner(3, 3));
        x.setClasses(3, 3);
        x.refresh();
        due("0 and 0: then the number of the rule", far, () -> x.winner(3, 3));
        x.setClasses(3, 2);
        x.refresh();
        due("0 is nearer than 3", near, () -> x.winner(3, 3));
    }

    private static void nearnessWithoutAScope() {
        Cascadum x = chainOf(29);
        x.setClasses(0, 1);
        int scoped = ruleForAll(x, 3, 1);
        x.setScope(scoped, 0);
        int heavy = x.compound(0, 0, 62, false);
        int free = x.addRule(2, -1, x.selector(heavy));
        x.declare(free, 3, n(x, 2), false);
        x.refresh();
        due("29 steps are nearer than 1000 without a scope", scoped, () -> x.winner(29, 3));
        due("so are 0 steps", scoped, () -> x.winner(0, 3));
        x.setScope(scoped, -1);
        x.refresh();
        due("both without a scope: then the weight", free, () -> x.winner(29, 3));
    }

    private static void conditions() {
        Cascadum x = rowOf(1);
        int rule = ruleForAll(x, 4, 9);
        x.setContainer(0, true);
        int[] widths = {0, 1, 999, 1000, 4999, 5000};
        for (int width : widths) {
            x.setWindow(width);
            x.setCondition(rule, width);
            x.refresh();
            due("a width that is not less than " + width, 9, () -> x.computed(1, 4));
            if (width > 0) {
                x.setWindow(width - 1);
                x.refresh();
                due("a width that is less than " + width, 1, () -> x.computed(1, 4));
            }
            if (width < 5000) {
                x.setWindow(width + 1);
                x.refresh();
                due("a width that is more than " + width, 9, () -> x.computed(1, 4));
            }
        }
    }

    private static void conditionsWithoutAContainer() {
        Cascadum x = chainOf(3);
        int rule = ruleForAll(x, 4, 9);
        x.setCondition(rule, 0);
        x.refresh();
        due("and not if there is none, though 0 is not much", 1, () -> x.computed(3, 4));
        x.setContainer(3, true);
        x.refresh();
        due("itself is not above it", 1, () -> x.computed(3, 4));
        x.setContainer(0, true);
        x.refresh();
        due("three steps above it", 9, () -> x.computed(3, 4));
        due("the root has none above it", 1, () -> x.computed(0, 4));
        x.setCondition(rule, 1000);
        int narrow = x.addRule(2, -1, x.selector(withClasses(x, 1)));
        x.declare(narrow, 2, n(x, 999), false);
        x.setClasses(2, 1);
        x.setContainer(2, true);
        x.refresh();
        due("the nearest one counts, though a further one is wider", 1, () -> x.candidates(2, 4));
        due("which it is not for 3", 0, () -> x.candidates(3, 4));
        x.setContainer(2, false);
        x.refresh();
        due("now the further one is the nearest", 1, () -> x.candidates(3, 4));
        x.setCondition(rule, -1);
        x.setContainer(0, false);
        x.refresh();
        due("-1 asks for none", 1, () -> x.candidates(0, 4));
    }

    private static void widthInThisRefresh() {
        Cascadum x = chainOf(2);
        int rule = ruleForAll(x, 4, 9);
        x.setContainer(1, true);
        x.setCondition(rule, 500);
        int half = x.addRule(2, -1, x.selector(withClasses(x, 1)));
        x.declare(half, 2, x.value('%', 50, 0), false);
        x.setClasses(1, 1);
        x.refresh();
        due("500 of 1000", 9, () -> x.computed(2, 4));
        x.setWindow(999);
        x.refresh();
        due("499 in this refresh()", 1, () -> x.computed(2, 4));
        x.setWindow(1001);
        x.refresh();
        due("500 in this refresh()", 9, () -> x.computed(2, 4));
        due("which is its width", 500, () -> x.width(1));
    }

    // ---- layers

    private static String row(Cascadum x, int element, int property) {
        StringBuilder text = new StringBuilder();
        for (int i = 0; i < x.candidates(element, property); i++) {
            text.append(' ').append(x.candidateAt(element, property, i));
        }
        return text.toString().trim();
    }

    private static void layersWithin() {
        Cascadum x = new Cascadum();
        x.selector(bare(x));
        n(x, 1);
        for (int i = 0; i < 8; i++) {
            int within = i - 1;
            int want = i;
            due("at most 8 layers, each within the one before: " + i, want, () -> x.addLayer(0, within));
        }
        refused("no ninth layer", STATE, () -> x.addLayer(0, 7));
        for (int i = -1; i < 8; i++) {
            x.declare(x.addRule(0, i, 0), 3, 0, false);
        }
        x.refresh();
        due("what is in none is last, and within one what is in it comes first", "0 1 2 3 4 5 6 7 8",
                () -> row(x, 0, 3));
        Cascadum y = new Cascadum();
        y.selector(bare(y));
        n(y, 1);
        for (int i = 0; i < 8; i++) {
            y.addLayer(2, -1);
        }
        for (int i = 7; i >= -1; i--) {
            y.declare(y.addRule(2, i, 0), 3, 0, true);
        }
        y.refresh();
        due("eight beside one another, the other way round for important ones", "7 6 5 4 3 2 1 0 8",
                () -> row(y, 0, 3));
        Cascadum z = new Cascadum();
        z.selector(bare(z));
        n(z, 1);
        int late = z.addLayer(1, -1);
        int early = z.addLayer(1, late);
        int last = z.addLayer(1, -1);
        int inner = z.addLayer(1, last);
        int more = z.addLayer(1, late);
        int[] layers = {inner, -1, more, late, early, last};
        for (int layer : layers) {
            z.declare(z.addRule(1, layer, 0), 3, 0, false);
        }
        z.refresh();
        due("each with all that is in it, by rising numbers, then what is just in it", "1 5 0 3 2 4",
                () -> row(z, 0, 3));
    }
}
