import java.util.ArrayList;
import java.util.Arrays;
import java.util.Comparator;
import java.util.HashSet;
import java.util.List;
import java.util.NoSuchElementException;
import java.util.Objects;
import java.util.Set;

/**
 * The document said once more, as plainly as it can be and in another way than the class does it:
 * everything is found from nothing with lists and by going back and forth, and nothing is kept small.
 */
final class Model {
    static final class Element {
        int number;
        int tag;
        int classes;
        boolean isContainer;
        boolean isGone;
        Element parent;
        final List<Element> children = new ArrayList<>();
        Given given;
        List<Integer> counters = List.of();
        boolean isCounted;
    }

    static final class Part {
        int tag;
        int classes;
        int without;
        boolean isEmpty;
        boolean hasPlace;
        int step;
        int first;
        int counted;
        int below;
        boolean isUsed;
    }

    static final class Row {
        final List<Part> parts = new ArrayList<>();
        final List<Character> ways = new ArrayList<>();
        boolean isUsed;
    }

    record Layer(int number, int origin, Layer within) { }

    record Val(char kind, int a, Val left, Val right) { }

    static final class Rule {
        int number;
        int origin;
        Layer layer;
        int scope = -1;
        int condition = -1;
        final List<Row> rows = new ArrayList<>();
        final List<Declared> declarations = new ArrayList<>();
        int changes;
    }

    record Declared(int property, Val val, boolean isImportant) { }

    /** A rule as it matches an element, and a declaration of it there. */
    record Match(Rule rule, int weight, int nearness) { }

    record Candidate(Match match, Declared declared, int place) { }

    /** What a styling gives, and what it was made of. */
    static final class Given {
        Integer[] numbers;
        int width;
        List<Candidate> candidates;
        String rules;
        String changes;
        Integer[] above;
        int widthAbove;
    }

    final List<Element> elements = new ArrayList<>();
    final List<Part> parts = new ArrayList<>();
    final List<Row> rows = new ArrayList<>();
    final List<Layer> layers = new ArrayList<>();
    final List<Rule> rules = new ArrayList<>();
    final List<Val> vals = new ArrayList<>();
    int window = 1000;
    int calls;
    int styled;
    int shared;

    Model() {
        elements.add(new Element());
    }

    static void index(boolean holds) {
        if (!holds) {
            throw new IndexOutOfBoundsException();
        }
    }

    static void argument(boolean holds) {
        if (!holds) {
            throw new IllegalArgumentException();
        }
    }

    static void state(boolean holds) {
        if (!holds) {
            throw new IllegalStateException();
        }
    }

    static void possible(boolean holds) {
        if (!holds) {
            throw new UnsupportedOperationException();
        }
    }

    static <T> T at(List<T> list, int number) {
        index(number >= 0 && number < list.size());
        return list.get(number);
    }

    static boolean in(int number, int least, int most) {
        return number >= least && number <= most;
    }

    // ---- the tree

    int addElement(int parent, int place, int tag, int classes) {
        Element above = at(elements, parent);
        index(in(place, 0, above.children.size()));
        argument(in(tag, 0, 3) && in(classes, 0, 63));
        state(elements.size() < 30 && !above.isGone);
        Element made = new Element();
        made.number = elements.size();
        made.tag = tag;
        made.classes = classes;
        made.parent = above;
        above.children.add(place, made);
        elements.add(made);
        return made.number;
    }

    int removeElement(int element) {
        Element one = at(elements, element);
        argument(element != 0);
        state(!one.isGone);
        one.parent.children.remove(one);
        return removeBelow(one);
    }

    private int removeBelow(Element one) {
        one.isGone = true;
        int count = 1;
        for (Element child : one.children) {
            count += removeBelow(child);
        }
        return count;
    }

    boolean moveElement(int element, int parent) {
        Element one = at(elements, element);
        Element to = at(elements, parent);
        state(!one.isGone && !to.isGone);
        possible(element != 0 && one != to && !above(to).contains(one));
        boolean hadIt = one.parent == to;
        one.parent.children.remove(one);
        to.children.add(one);
        one.parent = to;
        return hadIt;
    }

    int setClasses(int element, int classes) {
        Element one = at(elements, element);
        argument(in(classes, 0, 63));
        state(!one.isGone);
        int before = one.classes;
        one.classes = classes;
        return before;
    }

    boolean setContainer(int element, boolean isContainer) {
        Element one = at(elements, element);
        state(!one.isGone);
        boolean before = one.isContainer;
        one.isContainer = isContainer;
        return before;
    }

    int setWindow(int width) {
        argument(in(width, 0, 5000));
        int before = window;
        window = width;
        return before;
    }

    /** From the parent on to the root. */
    static List<Element> above(Element one) {
        List<Element> all = new ArrayList<>();
        for (Element up = one.parent; up != null; up = up.parent) {
            all.add(up);
        }
        return all;
    }

    static List<Element> allBelow(Element one) {
        List<Element> all = new ArrayList<>();
        for (Element child : one.children) {
            all.add(child);
            all.addAll(allBelow(child));
        }
        return all;
    }

    static List<Element> ahead(Element one) {
        if (one.parent == null) {
            return List.of();
        }
        return one.parent.children.subList(0, one.parent.children.indexOf(one));
    }

    List<Element> inOrder() {
        List<Element> all = new ArrayList<>(List.of(elements.get(0)));
        all.addAll(allBelow(elements.get(0)));
        return all;
    }

    // ---- selectors, layers, rules

    int compound(int tag, int classes, int without, boolean isEmpty) {
        argument(in(tag, -1, 3) && in(classes, 0, 63) && in(without, 0, 63));
        state(parts.size() < 60);
        Part part = new Part();
        part.tag = tag;
        part.classes = classes;
        part.without = without;
        part.isEmpty = isEmpty;
        parts.add(part);
        return parts.size() - 1;
    }

    boolean place(int compound, int step, int first, int classes) {
        Part part = at(parts, compound);
        argument(in(step, 0, 5) && in(first, 1, 9) && in(classes, 0, 63));
        state(!part.isUsed);
        boolean before = part.hasPlace;
        part.hasPlace = true;
        part.step = step;
        part.first = first;
        part.counted = classes;
        return before;
    }

    int below(int compound, int classes) {
        Part part = at(parts, compound);
        argument(in(classes, 0, 63));
        state(!part.isUsed);
        int before = part.below;
        part.below = classes;
        return before;
    }

    int selector(int compound) {
        Part part = at(parts, compound);
        state(rows.size() < 40);
        Row row = new Row();
        row.parts.add(part);
        row.ways.add(' ');
        part.isUsed = true;
        rows.add(row);
        return rows.size() - 1;
    }

    int join(int selector, char by, int compound) {
        Row row = at(rows, selector);
        Part part = at(parts, compound);
        argument(" >+~".indexOf(by) >= 0);
        state(row.parts.size() < 4 && !row.isUsed);
        row.parts.add(part);
        row.ways.add(by);
        part.isUsed = true;
        return row.parts.size();
    }

    int addLayer(int origin, int within) {
        Layer outer = within == -1 ? null : at(layers, within);
        argument(in(origin, 0, 2) && (outer == null || outer.origin == origin));
        state(layers.size() < 8);
        layers.add(new Layer(layers.size(), origin, outer));
        return layers.size() - 1;
    }

    int addRule(int origin, int layer, int selector) {
        Layer in = layer == -1 ? null : at(layers, layer);
        Row row = at(rows, selector);
        argument(in(origin, 0, 2) && (in == null || in.origin == origin));
        state(rules.size() < 16);
        Rule rule = new Rule();
        rule.number = rules.size();
        rule.origin = origin;
        rule.layer = in;
        rule.rows.add(row);
        row.isUsed = true;
        rules.add(rule);
        return rule.number;
    }

    int alsoFor(int rule, int selector) {
        Rule one = at(rules, rule);
        Row row = at(rows, selector);
        state(one.rows.size() < 3);
        one.rows.add(row);
        row.isUsed = true;
        return one.rows.size();
    }

    int setScope(int rule, int scope) {
        Rule one = at(rules, rule);
        argument(in(scope, -1, 5));
        int before = one.scope;
        one.scope = scope;
        return before;
    }

    int setCondition(int rule, int width) {
        Rule one = at(rules, rule);
        argument(in(width, -1, 5000));
        int before = one.condition;
        one.condition = width;
        return before;
    }

    static boolean hasAll(Element one, int classes) {
        return (one.classes | classes) == one.classes;
    }

    static boolean fits(Part part, Element one) {
        if (part.tag >= 0 && part.tag != one.tag || !hasAll(one, part.classes)) {
            return false;
        }
        for (int i = 0; i < 6; i++) {
            if ((part.without >> i) % 2 == 1 && (one.classes >> i) % 2 == 1) {
                return false;
            }
        }
        if (part.isEmpty && !one.children.isEmpty()) {
            return false;
        }
        if (part.below != 0 && allBelow(one).stream().noneMatch(e -> hasAll(e, part.below))) {
            return false;
        }
        return !part.hasPlace || isPlaced(part, one);
    }

    private static boolean isPlaced(Part part, Element one) {
        if (!hasAll(one, part.counted)) {
            return false;
        }
        long number = 1 + ahead(one).stream().filter(e -> hasAll(e, part.counted)).count();
        for (int times = 0; times < 40; times++) {
            if (number == part.first + part.step * times) {
                return true;
            }
        }
        return false;
    }

    static boolean fits(Row row, int last, Element one) {
        if (!fits(row.parts.get(last), one)) {
            return false;
        }
        if (last == 0) {
            return true;
        }
        List<Element> others;
        switch (row.ways.get(last)) {
            case ' ' -> others = above(one);
            case '>' -> others = one.parent == null ? List.of() : List.of(one.parent);
            case '~' -> others = ahead(one);
            default -> others = ahead(one).isEmpty() ? List.of() : List.of(ahead(one).get(ahead(one).size() - 1));
        }
        return others.stream().anyMatch(e -> fits(row, last - 1, e));
    }

    static boolean fits(Row row, Element one) {
        return fits(row, row.parts.size() - 1, one);
    }

    static int cost(Row row) {
        int sum = 0;
        for (Part part : row.parts) {
            sum += part.tag >= 0 ? 1 : 0;
            sum += part.without != 0 ? 10 : 0;
            sum += part.hasPlace ? 10 : 0;
            sum += part.isEmpty ? 10 : 0;
            for (int i = 0; i < 6; i++) {
                sum += (part.classes >> i) % 2 * 10;
                sum += part.hasPlace ? (part.counted >> i) % 2 * 10 : 0;
                sum += (part.below >> i) % 2 * 10;
            }
        }
        return sum;
    }

    boolean matches(int selector, int element) {
        Row row = at(rows, selector);
        Element one = at(elements, element);
        state(!one.isGone);
        return fits(row, one);
    }

    int weight(int selector) {
        return cost(at(rows, selector));
    }

    // ---- values and declarations

    static int size(Val val) {
        return val == null ? 0 : 1 + size(val.left) + size(val.right);
    }

    static boolean has(Val val, char kind) {
        return val != null && (val.kind == kind || has(val.left, kind) || has(val.right, kind));
    }

    int value(char kind, int a, int b) {
        argument("ne%+viourl".indexOf(kind) >= 0);
        argument("ne%".indexOf(kind) < 0 || in(a, -9999, 9999));
        argument(kind != 'v' || in(a, 5, 7));
        Val left = kind == '+' ? at(vals, a) : null;
        Val right = kind == '+' || kind == 'v' && b != -1 ? at(vals, b) : null;
        Val made = new Val(kind, a, left, right);
        possible(left == null || "iourl".indexOf(left.kind) < 0);
        possible(right == null || "iourl".indexOf(right.kind) < 0);
        possible(size(made) <= 12);
        state(vals.size() < 80);
        vals.add(made);
        return vals.size() - 1;
    }

    int declare(int rule, int property, int value, boolean isImportant) {
        Rule one = at(rules, rule);
        Val val = at(vals, value);
        argument(in(property, 0, 9));
        state(one.declarations.size() < 6);
        one.declarations.add(new Declared(property, val, isImportant));
        one.changes++;
        return one.declarations.size();
    }

    int declareBox(int rule, int width, int margin, boolean isImportant) {
        Rule one = at(rules, rule);
        Val first = width == -1 ? null : at(vals, width);
        Val second = margin == -1 ? null : at(vals, margin);
        state(one.declarations.size() <= 4 && (vals.size() < 80 || first != null && second != null));
        Val untold = new Val('o', 0, null, null);
        if (first == null || second == null) {
            vals.add(untold);
        }
        one.declarations.add(new Declared(2, first == null ? untold : first, isImportant));
        one.declarations.add(new Declared(3, second == null ? untold : second, isImportant));
        one.changes++;
        return one.declarations.size();
    }

    int dropDeclaration(int rule, int index) {
        Rule one = at(rules, rule);
        at(one.declarations, index);
        one.declarations.remove(index);
        one.changes++;
        return one.declarations.size();
    }

    // ---- the cascade

    /** From the outermost layer on to this one, behind which what is just in it counts as the last. */
    static List<Integer> path(Layer layer) {
        List<Integer> path = new ArrayList<>();
        for (Layer at = layer; at != null; at = at.within) {
            path.add(0, at.number);
        }
        path.add(1000);
        return path;
    }

    static int byLayers(Layer one, Layer other) {
        return Arrays.compare(path(one).stream().mapToInt(i -> i).toArray(),
                path(other).stream().mapToInt(i -> i).toArray());
    }

    /** A later one is greater. */
    static int compare(Candidate one, Candidate other) {
        boolean isImportant = one.declared.isImportant;
        if (isImportant != other.declared.isImportant) {
            return isImportant ? 1 : -1;
        }
        int sign = isImportant ? -1 : 1;
        Rule rule = one.match.rule;
        Rule with = other.match.rule;
        if (rule.origin != with.origin) {
            return sign * Integer.compare(rule.origin, with.origin);
        }
        if (rule.layer != with.layer) {
            return sign * byLayers(rule.layer, with.layer);
        }
        return Comparator.<Candidate>comparingInt(c -> -c.match.nearness)
                .thenComparingInt(c -> c.match.weight)
                .thenComparingInt(c -> c.match.rule.number)
                .thenComparingInt(c -> c.place)
                .compare(one, other);
    }

    List<Match> matchesOf(Element one, java.util.function.Function<Element, Integer> widthOf) {
        List<Match> found = new ArrayList<>();
        for (Rule rule : rules) {
            int weight = rule.rows.stream().filter(row -> fits(row, one)).mapToInt(Model::cost).max().orElse(-1);
            List<Element> up = new ArrayList<>(List.of(one));
            up.addAll(above(one));
            int nearness = rule.scope < 0 ? 1000 : -1;
            for (int i = up.size() - 1; i >= 0 && rule.scope >= 0; i--) {
                nearness = hasAll(up.get(i), 1 << rule.scope) ? i : nearness;
            }
            Element container = above(one).stream().filter(e -> e.isContainer).findFirst().orElse(null);
            boolean isWide = rule.condition < 0 || container != null && widthOf.apply(container) >= rule.condition;
            if (weight >= 0 && nearness >= 0 && isWide) {
                found.add(new Match(rule, weight, nearness));
            }
        }
        return found;
    }

    static List<Candidate> candidatesOf(List<Match> matches) {
        List<Candidate> found = new ArrayList<>();
        for (Match match : matches) {
            for (int i = 0; i < match.rule.declarations.size(); i++) {
                found.add(new Candidate(match, match.rule.declarations.get(i), i));
            }
        }
        found.sort((one, other) -> compare(other, one));
        return found;
    }

    static List<Candidate> of(List<Candidate> all, int property) {
        return all.stream().filter(c -> c.declared.property == property).toList();
    }

    /** What is declared for a property once it has been turned back, 'u' if nothing is. */
    static Val declaredOf(List<Candidate> row) {
        if (row.isEmpty()) {
            return new Val('u', 0, null, null);
        }
        Candidate first = row.get(0);
        Rule rule = first.match.rule;
        if (first.declared.val.kind == 'r') {
            return declaredOf(row.stream().filter(c -> c.match.rule.origin != rule.origin).toList());
        }
        if (first.declared.val.kind == 'l') {
            return declaredOf(row.stream()
                    .filter(c -> c.match.rule.origin != rule.origin || c.match.rule.layer != rule.layer).toList());
        }
        return first.declared.val;
    }

    // ---- reckoning

    static final Integer[] FIRST = {0, 16, null, 0, 1, null, null, null, null, null};

    static boolean isInherited(int property) {
        return property == 0 || property == 1 || property == 4 || isOwn(property);
    }

    static boolean isOwn(int property) {
        return in(property, 5, 7);
    }

    /** One reckoning: what is declared, what is above, and the numbers that are found. */
    static final class Reckoning {
        final Val[] declared = new Val[10];
        Integer[] above;
        int widthAbove;

        Integer find(int property) {
            Val val = declared[property];
            char kind = val.kind;
            if (isOwn(property) && ledFrom(property).contains(property)) {
                return null;
            }
            if ("iou".indexOf(kind) < 0) {
                Integer number = eval(val, property);
                if (number != null || isOwn(property)) {
                    return number;
                }
                kind = 'u';
            }
            return kind == 'i' || kind == 'u' && isInherited(property) ? above[property] : FIRST[property];
        }

        static Set<Integer> asked(Val val) {
            Set<Integer> all = new HashSet<>();
            if (val != null) {
                if (val.kind == 'v') {
                    all.add(val.a);
                }
                all.addAll(asked(val.left));
                all.addAll(asked(val.right));
            }
            return all;
        }

        Set<Integer> ledFrom(int own) {
            Set<Integer> all = asked(declared[own]);
            for (int i = 0; i < 3; i++) {
                for (int to : List.copyOf(all)) {
                    all.addAll(asked(declared[to]));
                }
            }
            return all;
        }

        boolean waitsForFont(int own) {
            return has(declared[own], 'e') || ledFrom(own).stream().anyMatch(to -> has(declared[to], 'e'));
        }

        static int held(long number) {
            return number > 999999 ? 999999 : number < -999999 ? -999999 : (int) number;
        }

        static int cut(long product) {
            return held(product >= 0 ? product / 100 : -(-product / 100));
        }

        Integer eval(Val val, int property) {
            switch (val.kind) {
                case 'n':
                    return val.a;
                case 'e':
                    return cut((long) val.a * (property == 1 ? above[1] : find(1)));
                case '%':
                    return cut((long) val.a * (property == 1 ? above[1] : widthAbove));
                case '+':
                    Integer left = eval(val.left, property);
                    Integer right = eval(val.right, property);
                    return left == null || right == null ? null : (Integer) held((long) left + right);
                default:
                    boolean isThere = property != 1 || !waitsForFont(val.a);
                    Integer number = isThere ? find(val.a) : null;
                    return number != null ? number : val.right == null ? null : eval(val.right, property);
            }
        }
    }

    static Integer[] reckon(List<Candidate> candidates, Integer[] above, int widthAbove) {
        Reckoning reckoning = new Reckoning();
        reckoning.above = above;
        reckoning.widthAbove = widthAbove;
        for (int i = 0; i < 10; i++) {
            Val val = declaredOf(of(candidates, i));
            boolean isRefused = has(val, '%') && i != 1 && i != 2 && i != 3;
            reckoning.declared[i] = isRefused ? new Val('u', 0, null, null) : val;
        }
        Integer[] numbers = new Integer[10];
        for (int i = 0; i < 10; i++) {
            numbers[i] = reckoning.find(i);
        }
        return numbers;
    }

    static int laidOut(Integer[] numbers, int widthAbove) {
        int width = numbers[2] != null ? numbers[2] : widthAbove - 2 * numbers[3];
        return width < 0 ? 0 : width;
    }

    // ---- styles

    private int widthNow(Element one) {
        return laidOut(numbersNow(one), one.parent == null ? window : widthNow(one.parent));
    }

    /** The numbers of an element and of all above it, found from nothing. */
    private Integer[] numbersNow(Element one) {
        List<Element> down = above(one);
        java.util.Collections.reverse(down);
        down.add(one);
        java.util.Map<Element, Integer> found = new java.util.HashMap<>();
        Integer[] numbers = FIRST;
        int width = window;
        for (Element at : down) {
            numbers = reckon(candidatesOf(matchesOf(at, found::get)), numbers, width);
            width = laidOut(numbers, width);
            found.put(at, width);
        }
        return numbers;
    }

    static String told(List<Match> matches) {
        StringBuilder text = new StringBuilder();
        for (Match match : matches) {
            text.append(match.rule.number).append(' ').append(match.weight).append(' ')
                    .append(match.nearness).append(';');
        }
        return text.toString();
    }

    static String changed(List<Match> matches) {
        StringBuilder text = new StringBuilder();
        for (Match match : matches) {
            text.append(match.rule.changes).append(' ');
        }
        return text.toString();
    }

    private boolean isDue(Element one, List<Match> matches, Integer[] above, int widthAbove) {
        Given then = one.given;
        boolean asksForWidth = matches.stream()
                .anyMatch(m -> m.rule.declarations.stream().anyMatch(d -> has(d.val, '%')));
        return then == null
                || !then.rules.equals(told(matches))
                || !then.changes.equals(changed(matches))
                || !Arrays.equals(then.above, above)
                || asksForWidth && then.widthAbove != widthAbove;
    }

    private boolean style(Element one) {
        Integer[] above = one.parent == null ? FIRST : one.parent.given.numbers;
        int widthAbove = one.parent == null ? window : one.parent.given.width;
        List<Match> matches = matchesOf(one, e -> e.given.width);
        boolean isDue = isDue(one, matches, above, widthAbove);
        if (isDue) {
            Given given = new Given();
            given.rules = told(matches);
            given.changes = changed(matches);
            given.above = above;
            given.widthAbove = widthAbove;
            given.candidates = candidatesOf(matches);
            given.numbers = reckon(given.candidates, above, widthAbove);
            List<Element> ahead = ahead(one);
            if (!ahead.isEmpty() && ahead.get(ahead.size() - 1).given.rules.equals(given.rules)) {
                shared++;
                given.numbers = ahead.get(ahead.size() - 1).given.numbers;
            }
            one.given = given;
            styled++;
        }
        one.given.width = laidOut(one.given.numbers, widthAbove);
        return isDue;
    }

    int refresh() {
        calls++;
        int count = 0;
        for (Element one : inOrder()) {
            count += style(one) ? 1 : 0;
        }
        countIn(List.of(elements.get(0)), new ArrayList<>());
        return count;
    }

    /** A counter is one cell, so that all that see it see the same value. */
    private void countIn(List<Element> siblings, List<int[]> seenAbove) {
        List<int[]> seen = new ArrayList<>(seenAbove);
        for (Element one : siblings) {
            Integer reset = one.given.numbers[8];
            Integer step = one.given.numbers[9];
            boolean isOneOpenHere = seen.size() > seenAbove.size();
            if (reset != null && isOneOpenHere) {
                seen.remove(seen.size() - 1);
            }
            if (reset != null || step != null && seen.isEmpty()) {
                seen.add(new int[] {reset == null ? 0 : reset});
            }
            if (step != null) {
                seen.get(seen.size() - 1)[0] += step;
            }
            one.counters = seen.stream().map(cell -> cell[0]).toList();
            one.isCounted = true;
            countIn(one.children, seen);
        }
    }

    private Given givenOf(int element, int property) {
        Element one = at(elements, element);
        argument(in(property, 0, 9));
        state(!one.isGone && one.given != null);
        return one.given;
    }

    static int there(Integer number) {
        if (number == null) {
            throw new NoSuchElementException();
        }
        return number;
    }

    int computed(int element, int property) {
        return there(givenOf(element, property).numbers[property]);
    }

    int computedAnew(int element, int property) {
        Element one = at(elements, element);
        argument(in(property, 0, 9));
        state(!one.isGone);
        return there(numbersNow(one)[property]);
    }

    int width(int element) {
        return givenOf(element, 0).width;
    }

    int candidates(int element, int property) {
        return of(givenOf(element, property).candidates, property).size();
    }

    int candidateAt(int element, int property, int index) {
        List<Candidate> row = of(givenOf(element, property).candidates, property);
        return there(in(index, 0, row.size() - 1) ? (Integer) row.get(index).match.rule.number : null);
    }

    int counter(int element) {
        Element one = at(elements, element);
        state(!one.isGone && one.isCounted);
        return there(one.counters.isEmpty() ? null : one.counters.get(one.counters.size() - 1));
    }

    int counters(int element) {
        Element one = at(elements, element);
        state(!one.isGone && one.isCounted);
        return one.counters.size();
    }

    long widths() {
        return elements.stream().filter(e -> !e.isGone && e.given != null).mapToLong(e -> e.given.width).sum();
    }

    float sharedShare() {
        if (styled == 0) {
            throw new ArithmeticException();
        }
        return (float) shared / (float) styled;
    }

    double meanStyled() {
        if (calls == 0) {
            throw new ArithmeticException();
        }
        return (double) styled / (double) calls;
    }

    /** Whether what is kept is what is found from nothing, which the document says it always is. */
    boolean holds() {
        for (Element one : inOrder()) {
            if (!Objects.deepEquals(one.given.numbers, numbersNow(one)) || one.given.width != widthNow(one)) {
                return false;
            }
        }
        return true;
    }
}
