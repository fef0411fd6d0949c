import java.util.Arrays;
import java.util.NoSuchElementException;

/** A style engine: a tree of elements, rules with selectors, a cascade, values, layout and counters. */
public final class Cascadum {
    private static final int MOST_ELEMENTS = 30;
    private static final int MOST_COMPOUNDS = 60;
    private static final int MOST_SELECTORS = 40;
    private static final int MOST_IN_SELECTOR = 4;
    private static final int MOST_LAYERS = 8;
    private static final int MOST_RULES = 16;
    private static final int MOST_RULE_SELECTORS = 3;
    private static final int MOST_DECLARATIONS = 6;
    private static final int MOST_CANDIDATES = MOST_RULES * MOST_DECLARATIONS;
    private static final int MOST_VALUES = 80;
    private static final int MOST_PARTS = 12;
    private static final int MOST_WIDTH = 5000;
    private static final int MOST_NUMBER = 9999;
    private static final int MOST_HELD = 999999;

    private static final int ORIGINS = 3;
    private static final int TAGS = 4;
    private static final int CLASSES = 6;
    private static final int ALL_CLASSES = 63;
    private static final int MOST_STEP = 5;
    private static final int MOST_FIRST = 9;
    private static final int FAR = 1000;

    private static final int PROPERTIES = 10;
    private static final int FONT = 1;
    private static final int WIDTH = 2;
    private static final int MARGIN = 3;
    private static final int FIRST_OWN = 5;
    private static final int LAST_OWN = 7;
    private static final int RESET = 8;
    private static final int STEP = 9;
    /** The sets of properties are told as the classes are: bit p stands for the property p. */
    private static final int OWN = 1 << 5 | 1 << 6 | 1 << 7;
    private static final int INHERITED = 1 | 1 << FONT | 1 << 4 | OWN;
    private static final int WITH_PERCENT = 1 << FONT | 1 << WIDTH | 1 << MARGIN;
    private static final int THERE_AT_FIRST = 1 | 1 << FONT | 1 << MARGIN | 1 << 4;
    private static final int[] AT_FIRST = {0, 16, 0, 0, 1, 0, 0, 0, 0, 0};

    /** Stands for no number; all that is reckoned is held above it. */
    private static final int NOTHING = -MOST_HELD - 1;

    private final Tree tree = new Tree();
    private final Compound[] compoundRow = new Compound[MOST_COMPOUNDS];
    private final Chain[] chainRow = new Chain[MOST_SELECTORS];
    private final Layers layers = new Layers();
    private final Rule[] ruleRow = new Rule[MOST_RULES];
    private final Value[] valueRow = new Value[MOST_VALUES];
    private final Style[] kept = new Style[MOST_ELEMENTS];
    private final Style[] fresh = new Style[MOST_ELEMENTS];
    private final Styler styler = new Styler(tree, layers, ruleRow);
    private final Counting counting = new Counting();
    private int compoundCount;
    private int chainCount;
    private int ruleCount;
    private int valueCount;
    private int window = 1000;
    private int refreshCount;
    private int styledCount;
    private int sharedCount;
    private boolean isChanged = true;

    public Cascadum() {
        for (int i = 0; i < MOST_ELEMENTS; i++) {
            kept[i] = new Style();
            fresh[i] = new Style();
        }
    }

    // ---- the tree

    public int addElement(int parent, int place, int tag, int classes)
            throws IndexOutOfBoundsException, IllegalArgumentException, IllegalStateException {
        requireElement(parent);
        requireIndex(place >= 0 && place <= tree.kidCounts[parent]);
        requireArgument(tag >= 0 && tag < TAGS && isClassSet(classes));
        requireState(tree.made < MOST_ELEMENTS && !tree.gone[parent]);
        isChanged = true;
        return tree.add(parent, place, tag, classes);
    }

    public int removeElement(int element)
            throws IndexOutOfBoundsException, IllegalArgumentException, IllegalStateException {
        requireElement(element);
        requireArgument(element != 0);
        requireState(!tree.gone[element]);
        isChanged = true;
        return tree.drop(element);
    }

    public boolean moveElement(int element, int parent)
            throws IndexOutOfBoundsException, IllegalStateException, UnsupportedOperationException {
        requireElement(element);
        requireElement(parent);
        requireState(!tree.gone[element] && !tree.gone[parent]);
        requirePossible(element != 0 && !tree.isWithin(parent, element));
        isChanged = true;
        boolean hadIt = tree.parents[element] == parent;
        tree.carry(element, parent);
        return hadIt;
    }

    public int setClasses(int element, int classes)
            throws IndexOutOfBoundsException, IllegalArgumentException, IllegalStateException {
        requireElement(element);
        requireArgument(isClassSet(classes));
        requireState(!tree.gone[element]);
        isChanged = true;
        int before = tree.sets[element];
        tree.sets[element] = classes;
        return before;
    }

    public boolean setContainer(int element, boolean isContainer)
            throws IndexOutOfBoundsException, IllegalStateException {
        requireElement(element);
        requireState(!tree.gone[element]);
        isChanged = true;
        boolean before = tree.containers[element];
        tree.containers[element] = isContainer;
        return before;
    }

    public int setWindow(int width) throws IllegalArgumentException {
        requireArgument(width >= 0 && width <= MOST_WIDTH);
        isChanged = true;
        int before = window;
        window = width;
        return before;
    }

    // ---- selectors, layers, rules

    public int compound(int tag, int classes, int without, boolean isEmpty)
            throws IllegalArgumentException, IllegalStateException {
        requireArgument(tag >= -1 && tag < TAGS && isClassSet(classes) && isClassSet(without));
        requireState(compoundCount < MOST_COMPOUNDS);
        compoundRow[compoundCount] = new Compound(tag, classes, without, isEmpty);
        return compoundCount++;
    }

    public boolean place(int compound, int step, int first, int classes)
            throws IndexOutOfBoundsException, IllegalArgumentException, IllegalStateException {
        Compound part = compoundOf(compound);
        requireArgument(step >= 0 && step <= MOST_STEP);
        requireArgument(first >= 1 && first <= MOST_FIRST && isClassSet(classes));
        requireState(!part.isUsed);
        boolean before = part.first > 0;
        part.step = step;
        part.first = first;
        part.counted = classes;
        return before;
    }

    public int below(int compound, int classes)
            throws IndexOutOfBoundsException, IllegalArgumentException, IllegalStateException {
        Compound part = compoundOf(compound);
        requireArgument(isClassSet(classes));
        requireState(!part.isUsed);
        int before = part.under;
        part.under = classes;
        return before;
    }

    public int selector(int compound) throws IndexOutOfBoundsException, IllegalStateException {
        Compound part = compoundOf(compound);
        requireState(chainCount < MOST_SELECTORS);
        chainRow[chainCount] = new Chain();
        chainRow[chainCount].append(' ', part);
        return chainCount++;
    }

    public int join(int selector, char by, int compound)
            throws IndexOutOfBoundsException, IllegalArgumentException, IllegalStateException {
        Chain chain = chainOf(selector);
        Compound part = compoundOf(compound);
        requireArgument(by == ' ' || by == '>' || by == '+' || by == '~');
        requireState(chain.length < MOST_IN_SELECTOR && !chain.isUsed);
        chain.append(by, part);
        return chain.length;
    }

    public int addLayer(int origin, int within)
            throws IndexOutOfBoundsException, IllegalArgumentException, IllegalStateException {
        requireLayer(within);
        requireArgument(isOriginWith(origin, within));
        requireState(layers.count < MOST_LAYERS);
        return layers.add(origin, within);
    }

    public int addRule(int origin, int layer, int selector)
            throws IndexOutOfBoundsException, IllegalArgumentException, IllegalStateException {
        requireLayer(layer);
        Chain chain = chainOf(selector);
        requireArgument(isOriginWith(origin, layer));
        requireState(ruleCount < MOST_RULES);
        isChanged = true;
        Rule rule = new Rule(origin, layer);
        rule.append(chain);
        ruleRow[ruleCount] = rule;
        return ruleCount++;
    }

    public int alsoFor(int rule, int selector) throws IndexOutOfBoundsException, IllegalStateException {
        Rule one = ruleOf(rule);
        Chain chain = chainOf(selector);
        requireState(one.chainCount < MOST_RULE_SELECTORS);
        isChanged = true;
        one.append(chain);
        return one.chainCount;
    }

    public int setScope(int rule, int scope) throws IndexOutOfBoundsException, IllegalArgumentException {
        Rule one = ruleOf(rule);
        requireArgument(scope >= -1 && scope < CLASSES);
        isChanged = true;
        int before = one.scope;
        one.scope = scope;
        return before;
    }

    public int setCondition(int rule, int width) throws IndexOutOfBoundsException, IllegalArgumentException {
        Rule one = ruleOf(rule);
        requireArgument(width >= -1 && width <= MOST_WIDTH);
        isChanged = true;
        int before = one.condition;
        one.condition = width;
        return before;
    }

    // ---- values and declarations

    public int value(char kind, int a, int b)
            throws IllegalArgumentException, IndexOutOfBoundsException, UnsupportedOperationException,
            IllegalStateException {
        requireArgument(isKindWith(kind, a));
        boolean hasLeft = kind == '+';
        boolean hasRight = kind == '+' || kind == 'v' && b != -1;
        requireIndex((!hasLeft || isValue(a)) && (!hasRight || isValue(b)));
        Value left = hasLeft ? valueRow[a] : null;
        Value right = hasRight ? valueRow[b] : null;
        requirePossible(Value.canBePart(left) && Value.canBePart(right));
        requirePossible(1 + Value.partsIn(left) + Value.partsIn(right) <= MOST_PARTS);
        requireState(valueCount < MOST_VALUES);
        return keep(new Value(kind, a, left, right));
    }

    public int declare(int rule, int property, int value, boolean isImportant)
            throws IndexOutOfBoundsException, IllegalArgumentException, IllegalStateException {
        Rule one = ruleOf(rule);
        requireIndex(isValue(value));
        requireProperty(property);
        requireState(one.size < MOST_DECLARATIONS);
        isChanged = true;
        one.declareAt(refreshCount, property, valueRow[value], isImportant);
        return one.size;
    }

    public int declareBox(int rule, int width, int margin, boolean isImportant)
            throws IndexOutOfBoundsException, IllegalStateException {
        Rule one = ruleOf(rule);
        requireIndex((width == -1 || isValue(width)) && (margin == -1 || isValue(margin)));
        boolean isOneUntold = width == -1 || margin == -1;
        requireState(one.size + 2 <= MOST_DECLARATIONS && !(isOneUntold && valueCount >= MOST_VALUES));
        isChanged = true;
        int untold = isOneUntold ? keep(new Value('o', 0, null, null)) : -1;
        one.declareAt(refreshCount, WIDTH, valueRow[width == -1 ? untold : width], isImportant);
        one.declareAt(refreshCount, MARGIN, valueRow[margin == -1 ? untold : margin], isImportant);
        return one.size;
    }

    public int dropDeclaration(int rule, int index) throws IndexOutOfBoundsException {
        Rule one = ruleOf(rule);
        requireIndex(index >= 0 && index < one.size);
        isChanged = true;
        one.dropAt(refreshCount, index);
        return one.size;
    }

    // ---- styles

    public int refresh() {
        refreshCount++;
        styler.begin(ruleCount, window, refreshCount);
        styler.renew(kept);
        counting.count(tree, kept);
        styledCount += styler.styledNow;
        sharedCount += styler.sharedNow;
        isChanged = false;
        return styler.styledNow;
    }

    public int shared() {
        return sharedCount;
    }

    public int styled() {
        return styledCount;
    }

    public int computed(int element, int property)
            throws IndexOutOfBoundsException, IllegalArgumentException, IllegalStateException,
            NoSuchElementException {
        Style style = styleOf(element, property);
        requireFound(style.has(property));
        return style.numbers[property];
    }

    public int computedAnew(int element, int property)
            throws IndexOutOfBoundsException, IllegalArgumentException, IllegalStateException,
            NoSuchElementException {
        requireElement(element);
        requireProperty(property);
        requireState(!tree.gone[element]);
        findAnew();
        requireFound(fresh[element].has(property));
        return fresh[element].numbers[property];
    }

    public int width(int element) throws IndexOutOfBoundsException, IllegalStateException {
        return styleOf(element, WIDTH).room;
    }

    public int winner(int element, int property)
            throws IndexOutOfBoundsException, IllegalArgumentException, IllegalStateException,
            NoSuchElementException {
        return candidateAt(element, property, 0);
    }

    public int candidates(int element, int property)
            throws IndexOutOfBoundsException, IllegalArgumentException, IllegalStateException {
        return styleOf(element, property).countCandidates(property);
    }

    public int candidateAt(int element, int property, int index)
            throws IndexOutOfBoundsException, IllegalArgumentException, IllegalStateException,
            NoSuchElementException {
        int rule = styleOf(element, property).findCandidate(property, index);
        requireFound(rule >= 0);
        return rule;
    }

    public boolean matches(int selector, int element) throws IndexOutOfBoundsException, IllegalStateException {
        Chain chain = chainOf(selector);
        requireElement(element);
        requireState(!tree.gone[element]);
        chain.search(tree);
        return chain.covers(element);
    }

    public int weight(int selector) throws IndexOutOfBoundsException {
        return chainOf(selector).cost;
    }

    public int counter(int element)
            throws IndexOutOfBoundsException, IllegalStateException, NoSuchElementException {
        Style style = styleOf(element, RESET);
        requireFound(style.counterCount > 0);
        return style.counterNumber;
    }

    public int counters(int element) throws IndexOutOfBoundsException, IllegalStateException {
        return styleOf(element, RESET).counterCount;
    }

    public long widths() {
        long sum = 0;
        for (int i = 0; i < tree.live; i++) {
            Style style = kept[tree.order[i]];
            sum += style.isStyled ? style.room : 0;
        }
        return sum;
    }

    public float sharedShare() throws ArithmeticException {
        requireDivisor(styledCount);
        return (float) sharedCount / (float) styledCount;
    }

    public double meanStyled() throws ArithmeticException {
        requireDivisor(refreshCount);
        return (double) styledCount / (double) refreshCount;
    }

    public boolean isTrue() {
        if (isChanged) {
            return true;
        }
        findAnew();
        for (int i = 0; i < tree.live; i++) {
            int element = tree.order[i];
            if (!kept[element].isAlike(fresh[element].numbers, fresh[element].there)) {
                return false;
            }
        }
        return true;
    }

    private void findAnew() {
        styler.begin(ruleCount, window, refreshCount);
        styler.makeAll(fresh);
    }

    private int keep(Value one) {
        valueRow[valueCount] = one;
        return valueCount++;
    }

    private Style styleOf(int element, int property) {
        requireElement(element);
        requireProperty(property);
        requireState(!tree.gone[element] && kept[element].isStyled);
        return kept[element];
    }

    private Compound compoundOf(int compound) {
        requireIndex(compound >= 0 && compound < compoundCount);
        return compoundRow[compound];
    }

    private Chain chainOf(int selector) {
        requireIndex(selector >= 0 && selector < chainCount);
        return chainRow[selector];
    }

    private Rule ruleOf(int rule) {
        requireIndex(rule >= 0 && rule < ruleCount);
        return ruleRow[rule];
    }

    private boolean isValue(int value) {
        return value >= 0 && value < valueCount;
    }

    /** Whether there is such an origin, and the layer, if there is one, is of it. */
    private boolean isOriginWith(int origin, int layer) {
        return origin >= 0 && origin < ORIGINS && (layer == -1 || layers.origins[layer] == origin);
    }

    private static boolean isClassSet(int classes) {
        return classes >= 0 && classes <= ALL_CLASSES;
    }

    /** Whether there is such a kind of value, and a, where it is a number or a property, is in range. */
    private static boolean isKindWith(char kind, int a) {
        switch (kind) {
            case 'n':
            case 'e':
            case '%':
                return a >= -MOST_NUMBER && a <= MOST_NUMBER;
            case 'v':
                return a >= FIRST_OWN && a <= LAST_OWN;
            case '+':
            case 'i':
            case 'o':
            case 'u':
            case 'r':
            case 'l':
                return true;
            default:
                return false;
        }
    }

    /** Whether a number is in a set that is told as the sum of 2 to the power of each. */
    private static boolean isIn(int set, int number) {
        return (set >>> number & 1) == 1;
    }

    private void requireElement(int element) {
        requireIndex(element >= 0 && element < tree.made);
    }

    private void requireLayer(int layer) {
        requireIndex(layer >= -1 && layer < layers.count);
    }

    private static void requireProperty(int property) {
        requireArgument(property >= 0 && property < PROPERTIES);
    }

    private static void requireIndex(boolean holds) {
        if (!holds) {
            throw new IndexOutOfBoundsException("there is no such number");
        }
    }

    private static void requireArgument(boolean holds) {
        if (!holds) {
            throw new IllegalArgumentException("an argument is out of range");
        }
    }

    private static void requireState(boolean holds) {
        if (!holds) {
            throw new IllegalStateException("this cannot be asked for now");
        }
    }

    private static void requirePossible(boolean holds) {
        if (!holds) {
            throw new UnsupportedOperationException("this cannot be done with such parts");
        }
    }

    private static void requireFound(boolean holds) {
        if (!holds) {
            throw new NoSuchElementException("there is none");
        }
    }

    private static void requireDivisor(int divisor) {
        if (divisor == 0) {
            throw new ArithmeticException("there is nothing to divide by");
        }
    }

    /** The elements. A set of elements is told as the classes are: bit e stands for the element e. */
    private static final class Tree {
        final int[] tags = new int[MOST_ELEMENTS];
        final int[] sets = new int[MOST_ELEMENTS];
        final int[] parents = new int[MOST_ELEMENTS];
        final int[] kidCounts = new int[MOST_ELEMENTS];
        final int[][] kids = new int[MOST_ELEMENTS][MOST_ELEMENTS];
        final boolean[] containers = new boolean[MOST_ELEMENTS];
        final boolean[] gone = new boolean[MOST_ELEMENTS];
        /** The elements that are there, each ahead of its children. */
        final int[] order = new int[MOST_ELEMENTS];
        final int[] aheads = new int[MOST_ELEMENTS];
        final int[] depths = new int[MOST_ELEMENTS];
        final int[] tallies = new int[MOST_ELEMENTS];
        final int[] waiting = new int[MOST_ELEMENTS];
        int made = 1;
        int live = 1;

        Tree() {
            parents[0] = -1;
            aheads[0] = -1;
        }

        int add(int parent, int at, int tag, int classes) {
            int element = made;
            made++;
            tags[element] = tag;
            sets[element] = classes;
            attach(element, parent, at);
            trace();
            return element;
        }

        void carry(int element, int parent) {
            detach(element);
            attach(element, parent, kidCounts[parent]);
            trace();
        }

        int drop(int element) {
            int before = live;
            detach(element);
            trace();
            for (int i = 0; i < made; i++) {
                gone[i] = gone[i] || isWithin(i, element);
            }
            return before - live;
        }

        private void attach(int element, int parent, int at) {
            int[] row = kids[parent];
            for (int i = kidCounts[parent]; i > at; i--) {
                row[i] = row[i - 1];
            }
            row[at] = element;
            kidCounts[parent]++;
            parents[element] = parent;
        }

        /** Takes an element from the row of its parent; which parent that was stays told. */
        private void detach(int element) {
            int parent = parents[element];
            int[] row = kids[parent];
            int left = 0;
            for (int i = 0; i < kidCounts[parent]; i++) {
                if (row[i] != element) {
                    row[left] = row[i];
                    left++;
                }
            }
            kidCounts[parent] = left;
        }

        /** Finds the order anew, and what goes by it: who is just ahead, and how deep each one is. */
        private void trace() {
            live = 0;
            int open = 1;
            waiting[0] = 0;
            while (open > 0 && live < MOST_ELEMENTS) {
                open--;
                int element = waiting[open];
                order[live] = element;
                live++;
                for (int i = kidCounts[element] - 1; i >= 0 && open < MOST_ELEMENTS; i--) {
                    int kid = kids[element][i];
                    aheads[kid] = i > 0 ? kids[element][i - 1] : -1;
                    depths[kid] = depths[element] + 1;
                    waiting[open] = kid;
                    open++;
                }
            }
        }

        boolean isWithin(int element, int top) {
            int at = element;
            for (int i = 0; i < MOST_ELEMENTS && at >= 0 && at != top; i++) {
                at = parents[at];
            }
            return at == top;
        }

        /** The number of steps up to the nearest one that has a class, or -1. */
        int stepsUpTo(int element, int scope) {
            int at = element;
            for (int steps = 0; steps < MOST_ELEMENTS && at >= 0; steps++) {
                if (isIn(sets[at], scope)) {
                    return steps;
                }
                at = parents[at];
            }
            return -1;
        }

        int containerAbove(int element) {
            int at = parents[element];
            for (int i = 0; i < MOST_ELEMENTS && at >= 0 && !containers[at]; i++) {
                at = parents[at];
            }
            return at;
        }

        boolean hasAll(int element, int classes) {
            return (sets[element] & classes) == classes;
        }

        int allWith(int classes) {
            int set = 0;
            for (int i = 0; i < live; i++) {
                set |= hasAll(order[i], classes) ? 1 << order[i] : 0;
            }
            return set;
        }

        int allPlaced(int step, int first, int classes) {
            Arrays.fill(tallies, 0);
            int set = 0;
            for (int i = 0; i < live; i++) {
                int element = order[i];
                if (hasAll(element, classes) && isPlace(tally(parents[element]), step, first)) {
                    set |= 1 << element;
                }
            }
            return set;
        }

        private int tally(int parent) {
            if (parent < 0) {
                return 1;
            }
            tallies[parent]++;
            return tallies[parent];
        }

        private static boolean isPlace(int number, int step, int first) {
            if (step <= 0 || number < first) {
                return number == first;
            }
            return (number - first) % step == 0;
        }

        /** All that have one of a set below them. */
        int allAbove(int set) {
            int above = 0;
            for (int i = live - 1; i > 0; i--) {
                int element = order[i];
                above |= isIn(set | above, element) ? 1 << parents[element] : 0;
            }
            return above;
        }

        /** All that one of a set can be joined to in this way, itself being ahead of them. */
        int allJoined(int set, char by) {
            int joined = 0;
            for (int i = 0; i < live; i++) {
                int element = order[i];
                int from = by == ' ' || by == '>' ? parents[element] : aheads[element];
                int through = by == ' ' || by == '~' ? set | joined : set;
                joined |= from >= 0 && isIn(through, from) ? 1 << element : 0;
            }
            return joined;
        }
    }

    /** What one part of a selector asks of an element. */
    private static final class Compound {
        final int tag;
        final int classes;
        final int without;
        final boolean isEmpty;
        int step;
        /** 0 for no place. */
        int first;
        int counted;
        int under;
        boolean isUsed;

        Compound(int tag, int classes, int without, boolean isEmpty) {
            this.tag = tag;
            this.classes = classes;
            this.without = without;
            this.isEmpty = isEmpty;
        }

        int cost() {
            int tens = Integer.bitCount(classes) + Integer.bitCount(under);
            tens += without != 0 ? 1 : 0;
            tens += first > 0 ? 1 + Integer.bitCount(counted) : 0;
            tens += isEmpty ? 1 : 0;
            return 10 * tens + (tag >= 0 ? 1 : 0);
        }

        int search(Tree tree) {
            int set = 0;
            for (int i = 0; i < tree.live; i++) {
                int element = tree.order[i];
                set |= fits(tree, element) ? 1 << element : 0;
            }
            if (first > 0) {
                set &= tree.allPlaced(step, first, counted);
            }
            if (under != 0) {
                set &= tree.allAbove(tree.allWith(under));
            }
            return set;
        }

        private boolean fits(Tree tree, int element) {
            return (tag < 0 || tree.tags[element] == tag)
                    && tree.hasAll(element, classes)
                    && (tree.sets[element] & without) == 0
                    && !(isEmpty && tree.kidCounts[element] > 0);
        }
    }

    /** A selector: compounds, each joined to the one ahead of it. */
    private static final class Chain {
        final Compound[] parts = new Compound[MOST_IN_SELECTOR];
        final char[] joints = new char[MOST_IN_SELECTOR];
        int length;
        int cost;
        boolean isUsed;
        /** The elements that it matched when it was searched for. */
        int found;

        void append(char by, Compound part) {
            parts[length] = part;
            joints[length] = by;
            length++;
            cost += part.cost();
            part.isUsed = true;
        }

        void search(Tree tree) {
            found = 0;
            for (int i = 0; i < length; i++) {
                int own = parts[i].search(tree);
                found = i == 0 ? own : own & tree.allJoined(found, joints[i]);
            }
        }

        boolean covers(int element) {
            return isIn(found, element);
        }
    }

    /** The layers and their order. */
    private static final class Layers {
        final int[] origins = new int[MOST_LAYERS];
        final int[] outers = new int[MOST_LAYERS];
        final int[] ranks = new int[MOST_LAYERS];
        int count;

        int add(int origin, int within) {
            origins[count] = origin;
            outers[count] = within;
            count++;
            rankWithin(-1, 0, 0);
            return count - 1;
        }

        /** What is in no layer comes behind all layers of its origin. */
        int rankOf(int layer) {
            return layer < 0 ? MOST_LAYERS : ranks[layer];
        }

        /** Layers of one origin alone are ever compared, so that all can be numbered in one row. */
        private int rankWithin(int outer, int from, int depth) {
            int next = from;
            for (int i = 0; i < count && depth <= MOST_LAYERS; i++) {
                if (outers[i] == outer) {
                    next = rankWithin(i, next, depth + 1);
                    ranks[i] = next;
                    next++;
                }
            }
            return next;
        }
    }

    private static final class Rule {
        final int origin;
        final int layer;
        final Chain[] chains = new Chain[MOST_RULE_SELECTORS];
        final int[] properties = new int[MOST_DECLARATIONS];
        final Value[] values = new Value[MOST_DECLARATIONS];
        final boolean[] importances = new boolean[MOST_DECLARATIONS];
        int chainCount;
        int size;
        int scope = -1;
        int condition = -1;
        /** The number of calls of refresh() ahead of the last change of its declarations. */
        int changedAt = -1;

        Rule(int origin, int layer) {
            this.origin = origin;
            this.layer = layer;
        }

        void append(Chain chain) {
            chains[chainCount] = chain;
            chainCount++;
            chain.isUsed = true;
        }

        void declareAt(int moment, int property, Value value, boolean isImportant) {
            properties[size] = property;
            values[size] = value;
            importances[size] = isImportant;
            size++;
            changedAt = moment;
        }

        void dropAt(int moment, int index) {
            for (int i = index; i + 1 < size; i++) {
                properties[i] = properties[i + 1];
                values[i] = values[i + 1];
                importances[i] = importances[i + 1];
            }
            size--;
            changedAt = moment;
        }

        boolean usesPercent() {
            for (int i = 0; i < size; i++) {
                if (values[i].hasPercent) {
                    return true;
                }
            }
            return false;
        }

        void search(Tree tree) {
            for (int i = 0; i < chainCount; i++) {
                chains[i].search(tree);
            }
        }

        /** The greatest weight of the selectors that match an element, or -1. */
        int costAt(int element) {
            int cost = -1;
            for (int i = 0; i < chainCount; i++) {
                cost = chains[i].covers(element) ? Math.max(cost, chains[i].cost) : cost;
            }
            return cost;
        }
    }

    /** A declared value, with what is in it and its parts. */
    private static final class Value {
        final char kind;
        /** The number of 'n', 'e' and '%', and the property of 'v'. */
        final int number;
        final Value left;
        final Value right;
        final int parts;
        final boolean hasPercent;
        final boolean hasFont;
        /** The own properties that it asks for, those of other values included. */
        final int asked;

        Value(char kind, int number, Value left, Value right) {
            this.kind = kind;
            this.number = number;
            this.left = left;
            this.right = right;
            parts = 1 + partsIn(left) + partsIn(right);
            hasPercent = kind == '%' || left != null && left.hasPercent || right != null && right.hasPercent;
            hasFont = kind == 'e' || left != null && left.hasFont || right != null && right.hasFont;
            asked = (kind == 'v' ? 1 << number : 0) | askedBy(left) | askedBy(right);
        }

        static int partsIn(Value value) {
            return value == null ? 0 : value.parts;
        }

        static int askedBy(Value value) {
            return value == null ? 0 : value.asked;
        }

        static boolean canBePart(Value value) {
            return value == null || isReckoned(value.kind);
        }

        /** Whether a number is reckoned from it, so that it is none of 'i', 'o', 'u', 'r' and 'l'. */
        static boolean isReckoned(char kind) {
            return kind == 'n' || kind == 'e' || kind == '%' || kind == '+' || kind == 'v';
        }
    }

    /** What an element has been given, and what this was found by. */
    private static final class Style {
        final int[] numbers = AT_FIRST.clone();
        /** The properties that have a number. */
        int there = THERE_AT_FIRST;
        /** The width in the layout. */
        int room;
        boolean isStyled;
        int styledAt;
        /** By rules: the weight, -1 for one that does not match, and the nearness. */
        final int[] costs = new int[MOST_RULES];
        final int[] steps = new int[MOST_RULES];
        final int[] parentNumbers = new int[PROPERTIES];
        int parentThere;
        int parentRoom;
        /** From the one that wins on, whichever the properties. */
        final int[] candidateRules = new int[MOST_CANDIDATES];
        final int[] candidateProperties = new int[MOST_CANDIDATES];
        int candidateCount;
        int counterCount;
        int counterNumber;

        boolean has(int property) {
            return isIn(there, property);
        }

        void put(int property, int number) {
            numbers[property] = number;
            there |= 1 << property;
        }

        void take(int property, Style from) {
            if (from.has(property)) {
                put(property, from.numbers[property]);
            }
        }

        void putFirst(int property) {
            if (isIn(THERE_AT_FIRST, property)) {
                put(property, AT_FIRST[property]);
            }
        }

        void takeAll(Style from) {
            System.arraycopy(from.numbers, 0, numbers, 0, PROPERTIES);
            there = from.there;
        }

        boolean isAlike(int[] others, int otherThere) {
            if (there != otherThere) {
                return false;
            }
            for (int i = 0; i < PROPERTIES; i++) {
                if (has(i) && numbers[i] != others[i]) {
                    return false;
                }
            }
            return true;
        }

        boolean isFoundBy(int[] otherCosts, int[] otherSteps) {
            for (int i = 0; i < MOST_RULES; i++) {
                if (costs[i] != otherCosts[i] || steps[i] != otherSteps[i]) {
                    return false;
                }
            }
            return true;
        }

        void layOut(Style parent) {
            room = Math.max(0, has(WIDTH) ? numbers[WIDTH] : parent.room - 2 * numbers[MARGIN]);
        }

        int countCandidates(int property) {
            int count = 0;
            for (int i = 0; i < candidateCount; i++) {
                count += candidateProperties[i] == property ? 1 : 0;
            }
            return count;
        }

        /** The rule of a candidate, or -1 if there is no such index. */
        int findCandidate(int property, int index) {
            int at = -1;
            for (int i = 0; i < candidateCount; i++) {
                at += candidateProperties[i] == property ? 1 : 0;
                if (at == index && index >= 0) {
                    return candidateRules[i];
                }
            }
            return -1;
        }
    }

    /** Puts the declarations that match one element in the order of the cascade, the last one first. */
    private static final class Cascade {
        final Layers layers;
        final Rule[] rules;
        final int[] sorted = new int[MOST_RULES];
        final int[] foundRules = new int[MOST_CANDIDATES];
        final int[] foundSlots = new int[MOST_CANDIDATES];
        int sortedCount;
        int foundCount;

        Cascade(Layers layers, Rule[] rules) {
            this.layers = layers;
            this.rules = rules;
        }

        void gather(int[] costs, int[] steps) {
            foundCount = 0;
            sortRules(costs, steps, true);
            gatherSorted(true);
            sortRules(costs, steps, false);
            gatherSorted(false);
        }

        private void sortRules(int[] costs, int[] steps, boolean isImportant) {
            sortedCount = 0;
            for (int i = 0; i < MOST_RULES; i++) {
                if (costs[i] >= 0 && rules[i] != null) {
                    int at = sortedCount;
                    while (at > 0 && isLater(i, sorted[at - 1], costs, steps, isImportant)) {
                        sorted[at] = sorted[at - 1];
                        at--;
                    }
                    sorted[at] = i;
                    sortedCount++;
                }
            }
        }

        private boolean isLater(int one, int other, int[] costs, int[] steps, boolean isImportant) {
            int sign = isImportant ? -1 : 1;
            int byOrigin = rules[one].origin - rules[other].origin;
            if (byOrigin != 0) {
                return sign * byOrigin > 0;
            }
            int byLayer = layers.rankOf(rules[one].layer) - layers.rankOf(rules[other].layer);
            if (byLayer != 0) {
                return sign * byLayer > 0;
            }
            if (steps[one] != steps[other]) {
                return steps[one] < steps[other];
            }
            return costs[one] != costs[other] ? costs[one] > costs[other] : one > other;
        }

        private void gatherSorted(boolean isImportant) {
            for (int i = 0; i < sortedCount; i++) {
                Rule rule = rules[sorted[i]];
                for (int slot = rule.size - 1; slot >= 0; slot--) {
                    if (rule.importances[slot] == isImportant) {
                        foundRules[foundCount] = sorted[i];
                        foundSlots[foundCount] = slot;
                        foundCount++;
                    }
                }
            }
        }

        void copyTo(Style style) {
            for (int i = 0; i < foundCount; i++) {
                style.candidateRules[i] = foundRules[i];
                style.candidateProperties[i] = rules[foundRules[i]].properties[foundSlots[i]];
            }
            style.candidateCount = foundCount;
        }

        /**
         * The declared value of a property, once 'r' and 'l' have turned back, or null for none.
         * One way through is enough: all ahead of a candidate is left out already when it wins.
         */
        Value pick(int property) {
            int originsOut = 0;
            int layersOut = 0;
            for (int i = 0; i < foundCount; i++) {
                Rule rule = rules[foundRules[i]];
                int originBit = 1 << rule.origin;
                int layerBit = 1 << (rule.layer >= 0 ? rule.layer : MOST_LAYERS + rule.origin);
                boolean isOut = (originsOut & originBit) != 0 || (layersOut & layerBit) != 0;
                if (!isOut && rule.properties[foundSlots[i]] == property) {
                    Value value = rule.values[foundSlots[i]];
                    if (value.kind != 'r' && value.kind != 'l') {
                        return value;
                    }
                    originsOut |= value.kind == 'r' ? originBit : 0;
                    layersOut |= value.kind == 'l' ? layerBit : 0;
                }
            }
            return null;
        }
    }

    /** Reckons the numbers of one element from its declared values and the numbers of its parent. */
    private static final class Reckoner {
        /** By properties; null stands for 'u'. */
        final Value[] declared = new Value[PROPERTIES];
        /** By properties: the own ones to which the declared value leads in one or more steps. */
        final int[] led = new int[PROPERTIES];
        /** The properties in the order in which they are settled, without the own ones in rings. */
        final int[] queue = new int[PROPERTIES];
        int queued;
        /** The own properties that are in the queue, or will never be there. */
        int known;
        Style style;
        Style parent;
        int fontBase;
        int percentBase;

        void reckon(Cascade cascade, Style into, Style from) {
            style = into;
            parent = from;
            style.there = 0;
            for (int i = 0; i < PROPERTIES; i++) {
                declared[i] = allowed(i, cascade.pick(i));
            }
            followLeads();
            lineUp();
            fontBase = parent.numbers[FONT];
            percentBase = fontBase;
            for (int i = 0; i < queued; i++) {
                settle(queue[i]);
                if (queue[i] == FONT) {
                    fontBase = style.numbers[FONT];
                    percentBase = parent.room;
                }
            }
        }

        private static Value allowed(int property, Value value) {
            boolean isRefused = value != null && value.hasPercent && !isIn(WITH_PERCENT, property);
            return isRefused ? null : value;
        }

        private void followLeads() {
            for (int i = FIRST_OWN; i <= LAST_OWN; i++) {
                led[i] = Value.askedBy(declared[i]);
            }
            for (int through = FIRST_OWN; through <= LAST_OWN; through++) {
                for (int i = FIRST_OWN; i <= LAST_OWN; i++) {
                    led[i] |= isIn(led[i], through) ? led[through] : 0;
                }
            }
        }

        /** Own properties that wait for the font come behind it, so that they are not there for it. */
        private void lineUp() {
            int waiting = 0;
            known = 0;
            queued = 0;
            for (int i = FIRST_OWN; i <= LAST_OWN; i++) {
                waiting |= waitsForFont(i) ? 1 << i : 0;
                known |= isIn(led[i], i) ? 1 << i : 0;
            }
            lineUpOwn(OWN & ~waiting);
            takeIn(FONT);
            lineUpOwn(waiting);
            for (int i = 0; i < PROPERTIES; i++) {
                if (i != FONT && !isIn(OWN, i)) {
                    takeIn(i);
                }
            }
        }

        private boolean waitsForFont(int own) {
            for (int i = FIRST_OWN; i <= LAST_OWN; i++) {
                boolean isAsked = i == own || isIn(led[own], i);
                if (isAsked && declared[i] != null && declared[i].hasFont) {
                    return true;
                }
            }
            return false;
        }

        /** Each round takes all that ask only for what is known; three rounds are enough for three. */
        private void lineUpOwn(int set) {
            for (int round = FIRST_OWN; round <= LAST_OWN; round++) {
                for (int i = FIRST_OWN; i <= LAST_OWN; i++) {
                    boolean isDue = isIn(set & ~known, i);
                    if (isDue && (Value.askedBy(declared[i]) & ~known) == 0) {
                        takeIn(i);
                        known |= 1 << i;
                    }
                }
            }
        }

        private void takeIn(int property) {
            if (queued < PROPERTIES) {
                queue[queued] = property;
                queued++;
            }
        }

        private void settle(int property) {
            Value value = declared[property];
            char kind = value == null ? 'u' : value.kind;
            boolean isReckoned = Value.isReckoned(kind);
            int number = isReckoned ? reckoned(value, 0) : NOTHING;
            if (number != NOTHING) {
                style.put(property, number);
            } else if (kind == 'i' || kind != 'o' && isIn(INHERITED, property)) {
                // An own one that asks for nothing is not there; any other one is as if it was 'u'.
                if (!isReckoned || !isIn(OWN, property)) {
                    style.take(property, parent);
                }
            } else {
                style.putFirst(property);
            }
        }

        private int reckoned(Value value, int depth) {
            if (value == null || depth > MOST_PARTS) {
                return NOTHING;
            }
            switch (value.kind) {
                case 'n':
                    return value.number;
                case 'e':
                    return held((long) value.number * fontBase / 100);
                case '%':
                    return held((long) value.number * percentBase / 100);
                case 'v':
                    return style.has(value.number)
                            ? style.numbers[value.number] : reckoned(value.right, depth + 1);
                case '+':
                    int one = reckoned(value.left, depth + 1);
                    int other = reckoned(value.right, depth + 1);
                    return one == NOTHING || other == NOTHING ? NOTHING : held((long) one + other);
                default:
                    return NOTHING;
            }
        }

        private static int held(long number) {
            return (int) Math.max(-MOST_HELD, Math.min(MOST_HELD, number));
        }
    }

    /** Goes through the tree and finds the styles of its elements. */
    private static final class Styler {
        final Tree tree;
        final Rule[] rules;
        final Cascade cascade;
        final Reckoner reckoner = new Reckoner();
        /** Stands above the root: what is at first, and the width of the window. */
        final Style outside = new Style();
        /** The rules of the element in hand, as in its style. */
        final int[] costs = new int[MOST_RULES];
        final int[] steps = new int[MOST_RULES];
        int ruleCount;
        int moment;
        int styledNow;
        int sharedNow;

        Styler(Tree tree, Layers layers, Rule[] rules) {
            this.tree = tree;
            this.rules = rules;
            cascade = new Cascade(layers, rules);
        }

        void begin(int howManyRules, int window, int now) {
            ruleCount = howManyRules;
            outside.room = window;
            moment = now;
            styledNow = 0;
            sharedNow = 0;
            for (int i = 0; i < ruleCount; i++) {
                rules[i].search(tree);
            }
        }

        void makeAll(Style[] styles) {
            for (int i = 0; i < tree.live; i++) {
                int element = tree.order[i];
                Style parent = parentOf(element, styles);
                findRules(element, styles);
                cascade.gather(costs, steps);
                reckoner.reckon(cascade, styles[element], parent);
                styles[element].layOut(parent);
            }
        }

        void renew(Style[] styles) {
            for (int i = 0; i < tree.live; i++) {
                int element = tree.order[i];
                Style parent = parentOf(element, styles);
                findRules(element, styles);
                if (isDue(styles[element], parent)) {
                    int ahead = tree.aheads[element];
                    restyle(styles[element], parent, ahead < 0 ? null : styles[ahead]);
                }
                styles[element].layOut(parent);
            }
        }

        private Style parentOf(int element, Style[] styles) {
            int parent = tree.parents[element];
            return parent < 0 ? outside : styles[parent];
        }

        private void findRules(int element, Style[] styles) {
            int container = tree.containerAbove(element);
            int room = container < 0 ? -1 : styles[container].room;
            for (int i = 0; i < MOST_RULES; i++) {
                costs[i] = -1;
                steps[i] = 0;
                if (i < ruleCount) {
                    findRule(i, element, room);
                }
            }
        }

        /** The room is that of the container above, or -1 if there is none. */
        private void findRule(int number, int element, int room) {
            Rule rule = rules[number];
            int cost = rule.costAt(element);
            int nearness = rule.scope < 0 ? FAR : tree.stepsUpTo(element, rule.scope);
            boolean isRoomy = rule.condition < 0 || room >= rule.condition;
            if (cost >= 0 && nearness >= 0 && isRoomy) {
                costs[number] = cost;
                steps[number] = nearness;
            }
        }

        private boolean isDue(Style style, Style parent) {
            return !style.isStyled
                    || !style.isFoundBy(costs, steps)
                    || isRuleChangedSince(style.styledAt)
                    || !parent.isAlike(style.parentNumbers, style.parentThere)
                    || parent.room != style.parentRoom && isPercentUsed();
        }

        private boolean isRuleChangedSince(int styledAt) {
            for (int i = 0; i < ruleCount; i++) {
                if (costs[i] >= 0 && rules[i].changedAt >= styledAt) {
                    return true;
                }
            }
            return false;
        }

        private boolean isPercentUsed() {
            for (int i = 0; i < ruleCount; i++) {
                if (costs[i] >= 0 && rules[i].usesPercent()) {
                    return true;
                }
            }
            return false;
        }

        private void restyle(Style style, Style parent, Style ahead) {
            cascade.gather(costs, steps);
            cascade.copyTo(style);
            if (ahead != null && ahead.isFoundBy(costs, steps)) {
                style.takeAll(ahead);
                sharedNow++;
            } else {
                reckoner.reckon(cascade, style, parent);
            }
            styledNow++;
            remember(style, parent);
        }

        private void remember(Style style, Style parent) {
            style.isStyled = true;
            style.styledAt = moment;
            style.parentThere = parent.there;
            style.parentRoom = parent.room;
            System.arraycopy(parent.numbers, 0, style.parentNumbers, 0, PROPERTIES);
            System.arraycopy(costs, 0, style.costs, 0, MOST_RULES);
            System.arraycopy(steps, 0, style.steps, 0, MOST_RULES);
        }
    }

    /** Finds the counters of all elements. */
    private static final class Counting {
        /** The open counters from the outermost one on: how deep the one that opened it is, and its value. */
        final int[] depths = new int[MOST_ELEMENTS];
        final int[] sums = new int[MOST_ELEMENTS];
        int open;

        void count(Tree tree, Style[] styles) {
            open = 0;
            for (int i = 0; i < tree.live; i++) {
                int element = tree.order[i];
                meet(styles[element], tree.depths[element]);
            }
        }

        private void meet(Style style, int depth) {
            closeFrom(depth + 1);
            if (style.has(RESET)) {
                closeFrom(depth);
                begin(depth, style.numbers[RESET]);
            }
            if (style.has(STEP)) {
                if (open == 0) {
                    begin(depth, 0);
                }
                sums[open - 1] += style.numbers[STEP];
            }
            style.counterCount = open;
            style.counterNumber = open > 0 ? sums[open - 1] : 0;
        }

        /** Those opened deeper down are out of sight; those opened as deep were opened by siblings ahead. */
        private void closeFrom(int depth) {
            while (open > 0 && depths[open - 1] >= depth) {
                open--;
            }
        }

        private void begin(int depth, int number) {
            if (open < MOST_ELEMENTS) {
                depths[open] = depth;
                sums[open] = number;
                open++;
            }
        }
    }
}
