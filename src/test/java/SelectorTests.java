/** Promises 8 to 12, 31 and 32: compounds and selectors. */
public final class SelectorTests extends Checks {
    public static void main(String[] args) {
        compound();
        compoundAsks();
        placeCounts();
        placeRefuses();
        below();
        selector();
        joinRefuses();
        joinsMatch();
        joinsTurnBack();
        weights();
        matches();
        close("SelectorTests");
    }

    private static Cascadum rowOf(int... classes) {
        Cascadum x = new Cascadum();
        for (int i = 0; i < classes.length; i++) {
            x.addElement(0, i, 0, classes[i]);
        }
        return x;
    }

    /** The elements that a selector matches, from 0 to the last one, as 1 or 0. */
    private static String matched(Cascadum x, int selector, int count) {
        StringBuilder text = new StringBuilder();
        for (int i = 0; i < count; i++) {
            text.append(x.matches(selector, i) ? '1' : '0');
        }
        return text.toString();
    }

    private static void compound() {
        Cascadum x = new Cascadum();
        due("8: the first one is 0", 0, () -> x.compound(-1, 0, 0, false));
        due("8: the next one is 1", 1, () -> x.compound(3, 63, 63, true));
        refused("8: the tag -2", ARGUMENT, () -> x.compound(-2, 0, 0, false));
        refused("8: the tag 4", ARGUMENT, () -> x.compound(4, 0, 0, false));
        refused("8: the classes 64", ARGUMENT, () -> x.compound(0, 64, 0, false));
        refused("8: the classes -1", ARGUMENT, () -> x.compound(0, -1, 0, false));
        refused("8: without 64", ARGUMENT, () -> x.compound(0, 0, 64, false));
        refused("8: without -1", ARGUMENT, () -> x.compound(0, 0, -1, false));
        for (int i = 2; i < 60; i++) {
            int want = i;
            due("8: up to 60", want, () -> x.compound(0, 0, 0, false));
        }
        refused("8: there are 60", STATE, () -> x.compound(0, 0, 0, false));
        refused("8: the range is looked at ahead", ARGUMENT, () -> x.compound(4, 0, 0, false));
    }

    private static void compoundAsks() {
        Cascadum x = rowOf(0, 1, 3, 7);
        x.addElement(4, 0, 2, 2);
        int any = x.selector(x.compound(-1, 0, 0, false));
        int tag2 = x.selector(x.compound(2, 0, 0, false));
        int all = x.selector(x.compound(-1, 3, 0, false));
        int none = x.selector(x.compound(-1, 0, 5, false));
        int both = x.selector(x.compound(0, 2, 4, false));
        int empty = x.selector(x.compound(-1, 0, 0, true));
        due("8: anything", "111111", () -> matched(x, any, 6));
        due("8: a tag", "000001", () -> matched(x, tag2, 6));
        due("8: classes that are all there", "000110", () -> matched(x, all, 6));
        due("8: classes of which none is there", "110001", () -> matched(x, none, 6));
        due("8: both of them and a tag", "000100", () -> matched(x, both, 6));
        due("8: without children", "011101", () -> matched(x, empty, 6));
        x.removeElement(5);
        due("8: as the tree is now", "01111", () -> matched(x, empty, 5));
    }

    private static int placed(Cascadum x, int step, int first, int classes) {
        int part = x.compound(-1, 0, 0, false);
        x.place(part, step, first, classes);
        return x.selector(part);
    }

    private static void placeCounts() {
        Cascadum x = rowOf(1, 0, 3, 1, 2, 1, 3, 1);
        int second = placed(x, 0, 2, 0);
        int odd = placed(x, 2, 1, 0);
        int fromThird = placed(x, 1, 3, 0);
        int third = placed(x, 3, 2, 1);
        int exact = placed(x, 0, 3, 1);
        int root = placed(x, 5, 1, 0);
        due("9: one place", "001000000", () -> matched(x, second, 9));
        due("9: each second one from the first; the root is alone", "110101010", () -> matched(x, odd, 9));
        due("9: all from the third one on", "000111111", () -> matched(x, fromThird, 9));
        due("9: counted among those with a class, 2 and 5", "000100010", () -> matched(x, third, 9));
        due("9: just the third one of a class", "000010000", () -> matched(x, exact, 9));
        due("9: every fifth one", "110000100", () -> matched(x, root, 9));
        int rooted = placed(x, 1, 1, 4);
        x.setClasses(0, 4);
        due("9: the root counts as the only one", "100000000", () -> matched(x, rooted, 9));
        x.addElement(1, 0, 0, 4);
        due("9: and its children do not", true, () -> x.matches(rooted, 9));
        int tagged = x.compound(1, 2, 0, false);
        x.place(tagged, 2, 1, 0);
        int both = x.selector(tagged);
        due("9: what else is asked for counts, too", "000000000", () -> matched(x, both, 9));
        x.addElement(0, 8, 1, 2);
        due("9: and all of it can be there", true, () -> x.matches(both, 10));
        x.removeElement(10);
        int ninth = placed(x, 0, 9, 0);
        x.addElement(0, 8, 0, 0);
        due("9: the ninth one", true, () -> x.matches(ninth, 11));
    }

    private static void placeRefuses() {
        Cascadum x = new Cascadum();
        refused("9: no such compound", INDEX, () -> x.place(0, 0, 1, 0));
        int part = x.compound(-1, 0, 0, false);
        refused("9: below 0", INDEX, () -> x.place(-1, 0, 1, 0));
        refused("9: the step -1", ARGUMENT, () -> x.place(part, -1, 1, 0));
        refused("9: the step 6", ARGUMENT, () -> x.place(part, 6, 1, 0));
        refused("9: the first one 0", ARGUMENT, () -> x.place(part, 0, 0, 0));
        refused("9: the first one 10", ARGUMENT, () -> x.place(part, 0, 10, 0));
        refused("9: the classes 64", ARGUMENT, () -> x.place(part, 0, 1, 64));
        refused("9: the classes -1", ARGUMENT, () -> x.place(part, 0, 1, -1));
        due("9: it asked for none", false, () -> x.place(part, 5, 9, 63));
        due("9: it asked for one", true, () -> x.place(part, 0, 1, 1));
        due("9: it asked for this one, too", true, () -> x.place(part, 0, 1, 1));
        int selector = x.selector(part);
        due("9: the last one counts", 20, () -> x.weight(selector));
        refused("9: the range is looked at ahead", ARGUMENT, () -> x.place(part, 6, 1, 0));
        refused("9: it is in a selector", STATE, () -> x.place(part, 0, 1, 0));
        int joined = x.compound(-1, 0, 0, false);
        x.join(selector, '>', joined);
        refused("9: joined to one, too", STATE, () -> x.place(joined, 0, 1, 0));
        int other = x.compound(-1, 0, 0, false);
        refused("9: a call that throws", ARGUMENT, () -> x.join(selector, 'x', other));
        due("9: does not put it into one", false, () -> x.place(other, 0, 1, 0));
    }

    private static void below() {
        Cascadum x = rowOf(0, 3);
        x.addElement(1, 0, 0, 0);
        x.addElement(3, 0, 0, 1);
        x.addElement(3, 1, 0, 2);
        refused("10: no such compound", INDEX, () -> x.below(0, 0));
        int part = x.compound(-1, 0, 0, false);
        due("10: none before", 0, () -> x.below(part, 1));
        due("10: those before", 1, () -> x.below(part, 0));
        x.below(part, 1);
        refused("10: below 0", INDEX, () -> x.below(-1, 0));
        refused("10: the classes 64", ARGUMENT, () -> x.below(part, 64));
        refused("10: the classes -1", ARGUMENT, () -> x.below(part, -1));
        int one = x.selector(part);
        refused("10: the range is looked at ahead", ARGUMENT, () -> x.below(part, 64));
        refused("10: it is in a selector", STATE, () -> x.below(part, 1));
        due("10: some element below, not itself", "110100", () -> matched(x, one, 6));
        int pair = x.compound(-1, 0, 0, false);
        x.below(pair, 3);
        int two = x.selector(pair);
        due("10: one element has all", "100000", () -> matched(x, two, 6));
        belowAndMore();
        int nothing = x.compound(-1, 0, 0, true);
        x.below(nothing, 1);
        x.below(nothing, 0);
        int free = x.selector(nothing);
        due("10: 0 is for not to ask", "001011", () -> matched(x, free, 6));
        due("10: and has no weight", 10, () -> x.weight(free));
    }

    private static void belowAndMore() {
        Cascadum x = rowOf(2, 1);
        x.addElement(1, 0, 1, 4);
        x.addElement(2, 0, 1, 8);
        int part = x.compound(0, 2, 0, false);
        x.below(part, 4);
        int both = x.selector(part);
        due("10: what else is asked for counts, too", "01000", () -> matched(x, both, 5));
        int[] all = new int[4];
        for (int i = 0; i < 4; i++) {
            int one = x.compound(-1, 0, 0, false);
            x.below(one, 1 << i);
            all[i] = x.selector(one);
        }
        due("10: the class 0 below", "10000", () -> matched(x, all[0], 5));
        due("10: the class 1 below", "10000", () -> matched(x, all[1], 5));
        due("10: the class 2 below", "11000", () -> matched(x, all[2], 5));
        due("10: the class 3 below", "10100", () -> matched(x, all[3], 5));
        x.setClasses(0, 16);
        int root = x.compound(-1, 0, 0, false);
        x.below(root, 16);
        int none = x.selector(root);
        due("10: the root is not below", "00000", () -> matched(x, none, 5));
    }

    private static void selector() {
        Cascadum x = new Cascadum();
        refused("11: no such compound", INDEX, () -> x.selector(0));
        int part = x.compound(0, 0, 0, false);
        refused("11: below 0", INDEX, () -> x.selector(-1));
        for (int i = 0; i < 40; i++) {
            int want = i;
            due("11: up to 40 of one compound", want, () -> x.selector(part));
        }
        refused("11: there are 40", STATE, () -> x.selector(part));
        refused("11: the compound is looked at ahead", INDEX, () -> x.selector(1));
    }

    private static void joinRefuses() {
        Cascadum x = new Cascadum();
        refused("12: no such selector", INDEX, () -> x.join(0, '>', 0));
        int part = x.compound(-1, 0, 0, false);
        int one = x.selector(part);
        refused("12: no such compound", INDEX, () -> x.join(one, '>', 1));
        refused("12: below 0", INDEX, () -> x.join(-1, '>', part));
        refused("12: a compound below 0", INDEX, () -> x.join(one, 'x', -1));
        refused("12: no such way", ARGUMENT, () -> x.join(one, 'x', part));
        refused("12: nor this one", ARGUMENT, () -> x.join(one, (char) 0, part));
        due("12: two", 2, () -> x.join(one, ' ', part));
        due("12: three", 3, () -> x.join(one, '>', part));
        due("12: four", 4, () -> x.join(one, '+', part));
        refused("12: it has four", STATE, () -> x.join(one, '~', part));
        refused("12: the way is looked at ahead", ARGUMENT, () -> x.join(one, 'x', part));
        int two = x.selector(part);
        due("12: the fourth way", 2, () -> x.join(two, '~', part));
        x.addRule(2, -1, two);
        refused("12: it is in a rule", STATE, () -> x.join(two, '~', part));
        int three = x.selector(part);
        x.alsoFor(0, three);
        refused("12: also for it", STATE, () -> x.join(three, '~', part));
    }

    private static int joined(Cascadum x, int first, String ways, int... others) {
        int selector = x.selector(first);
        for (int i = 0; i < others.length; i++) {
            x.join(selector, ways.charAt(i), others[i]);
        }
        return selector;
    }

    private static void joinsMatch() {
        Cascadum x = rowOf(1, 2, 4, 2);
        x.addElement(1, 0, 0, 2);
        x.addElement(5, 0, 0, 2);
        x.addElement(6, 0, 0, 4);
        int a = x.compound(-1, 1, 0, false);
        int b = x.compound(-1, 2, 0, false);
        int c = x.compound(-1, 4, 0, false);
        int above = joined(x, a, " ", b);
        int parent = joined(x, a, ">", b);
        int ahead = joined(x, a, "+", b);
        int earlier = joined(x, a, "~", b);
        int self = joined(x, b, " ", b);
        due("12: above it", "00000110", () -> matched(x, above, 8));
        due("12: its parent", "00000100", () -> matched(x, parent, 8));
        due("12: the sibling just ahead", "00100000", () -> matched(x, ahead, 8));
        due("12: a sibling ahead", "00101000", () -> matched(x, earlier, 8));
        due("12: not itself", "00000010", () -> matched(x, self, 8));
        int last = joined(x, a, "~>", b, c);
        due("12: the last one is for the element", "00000000", () -> matched(x, last, 8));
        int deep = joined(x, a, ">> ", b, b, c);
        due("12: four in a row", "00000001", () -> matched(x, deep, 8));
        x.moveElement(7, 4);
        due("12: as the tree is now", "00000001", () -> matched(x, last, 8));
    }

    /** Where the nearest one above does not do, a further one is tried. */
    private static void joinsTurnBack() {
        Cascadum x = rowOf(1);
        x.addElement(1, 0, 0, 2);
        x.addElement(2, 0, 0, 2);
        x.addElement(3, 0, 0, 4);
        int a = x.compound(-1, 1, 0, false);
        int b = x.compound(-1, 2, 0, false);
        int c = x.compound(-1, 4, 0, false);
        int back = joined(x, a, "> ", b, c);
        due("12: a further one above", "00001", () -> matched(x, back, 5));
        Cascadum y = rowOf(1, 2, 2, 4);
        int d = y.compound(-1, 1, 0, false);
        int e = y.compound(-1, 2, 0, false);
        int f = y.compound(-1, 4, 0, false);
        int again = joined(y, d, "+~", e, f);
        due("12: a further one ahead", "00001", () -> matched(y, again, 5));
    }

    private static void weights() {
        Cascadum x = new Cascadum();
        refused("32: no such selector", INDEX, () -> x.weight(0));
        int[] parts = {
            x.compound(-1, 0, 0, false), x.compound(0, 0, 0, false), x.compound(-1, 11, 0, false),
            x.compound(-1, 0, 11, false), x.compound(-1, 0, 0, true), x.compound(-1, 0, 0, false),
            x.compound(-1, 0, 0, false), x.compound(-1, 0, 0, false), x.compound(3, 63, 63, true)};
        x.place(parts[5], 0, 1, 0);
        x.place(parts[6], 2, 3, 7);
        x.below(parts[7], 33);
        x.place(parts[8], 1, 1, 63);
        x.below(parts[8], 63);
        int[] want = {0, 1, 30, 10, 10, 10, 40, 20, 211};
        for (int i = 0; i < parts.length; i++) {
            int selector = x.selector(parts[i]);
            due("32: the weight of compound " + i, want[i], () -> x.weight(selector));
        }
        int row = joined(x, parts[1], ">+~", parts[2], parts[6], parts[8]);
        due("32: the sum of its compounds", 282, () -> x.weight(row));
        refused("32: below 0", INDEX, () -> x.weight(-1));
        refused("32: behind the last one", INDEX, () -> x.weight(row + 1));
    }

    private static void matches() {
        Cascadum x = rowOf(1);
        refused("31: no such selector", INDEX, () -> x.matches(0, 0));
        int one = x.selector(x.compound(-1, 1, 0, false));
        refused("31: below 0", INDEX, () -> x.matches(-1, 0));
        refused("31: no such element", INDEX, () -> x.matches(one, 2));
        refused("31: an element below 0", INDEX, () -> x.matches(one, -1));
        due("31: it does", true, () -> x.matches(one, 1));
        due("31: it does not", false, () -> x.matches(one, 0));
        x.refresh();
        x.setClasses(1, 2);
        due("31: as the tree is now", false, () -> x.matches(one, 1));
        x.removeElement(1);
        refused("31: it was removed", STATE, () -> x.matches(one, 1));
        refused("31: the selector is looked at ahead", INDEX, () -> x.matches(1, 1));
    }
}
