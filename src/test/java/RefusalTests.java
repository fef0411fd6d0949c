import java.lang.reflect.InvocationTargetException;
import java.lang.reflect.Method;
import java.util.ArrayList;
import java.util.HashMap;
import java.util.List;
import java.util.Map;

/**
 * "A method that throws an exception changes nothing. If several exceptions apply, the exception listed first is
 * thrown." Each method is called with each choice of arguments at its bounds, in objects that are new, in use and full.
 * What it throws is what the model throws; and an object that has refused many calls answers as one that has not been
 * asked them.
 */
public final class RefusalTests extends Checks {
    /** A call by its name, on the class and on the model. */
    private record Step(String name, Object... arguments) {
        Object on(Object object) {
            Method method = METHODS.computeIfAbsent(object.getClass().getName() + name, key -> find(object));
            try {
                return method.invoke(object, arguments);
            } catch (InvocationTargetException e) {
                throw (RuntimeException) e.getCause();
            } catch (IllegalAccessException e) {
                throw new AssertionError(e);
            }
        }

        private Method find(Object object) {
            for (Method method : object.getClass().getDeclaredMethods()) {
                if (method.getName().equals(name) && method.getParameterCount() == arguments.length) {
                    return method;
                }
            }
            throw new AssertionError(name);
        }

        String told() {
            StringBuilder text = new StringBuilder(name).append('(');
            for (int i = 0; i < arguments.length; i++) {
                text.append(i == 0 ? "" : ", ").append(arguments[i]);
            }
            return text.append(')').toString();
        }
    }

    private static final Map<String, Method> METHODS = new HashMap<>();
    private static final int CALLS = 512;
    private static final int AT_ONCE = 40;
    private static final int PROBES = 5;
    private static final int LEAST = Integer.MIN_VALUE;
    private static final int MOST = Integer.MAX_VALUE;

    private final String world;
    private final List<Step> building;
    private final List<List<String>> untouched = new ArrayList<>();
    private final List<Step> waiting = new ArrayList<>();
    private int refusals;

    private RefusalTests(String world, List<Step> building) {
        this.world = world;
        this.building = building;
    }

    public static void main(String[] args) {
        int refusals = 0;
        refusals += new RefusalTests("new", new ArrayList<>()).play();
        refusals += new RefusalTests("in use", inUse()).play();
        refusals += new RefusalTests("full", full()).play();
        System.out.println("RefusalTests: " + refusals + " refused calls");
        close("RefusalTests");
    }

    private static void add(List<Step> steps, String name, Object... arguments) {
        steps.add(new Step(name, arguments));
    }

    // ---- the objects

    /** Some of everything, part of it since the last refresh(): 5 is removed, 6 is below it, 7 is not styled yet. */
    private static List<Step> inUse() {
        List<Step> steps = new ArrayList<>();
        int[] parents = {0, 0, 1, 1, 2, 5};
        for (int i = 0; i < parents.length; i++) {
            add(steps, "addElement", parents[i], 0, i % 4, 1 + i);
        }
        for (int i = 0; i < 5; i++) {
            add(steps, "compound", i - 1, i == 3 ? 1 : 0, 0, i == 4);
        }
        add(steps, "place", 2, 1, 1, 0);
        add(steps, "below", 3, 2);
        add(steps, "selector", 0);
        add(steps, "selector", 0);
        add(steps, "selector", 1);
        for (int i = 0; i < 3; i++) {
            add(steps, "join", 2, ' ', 0);
        }
        for (int i = 0; i < 3; i++) {
            add(steps, "addLayer", i, -1);
        }
        add(steps, "addLayer", 2, 2);
        add(steps, "addRule", 2, 3, 0);
        add(steps, "addRule", 0, -1, 0);
        add(steps, "addRule", 2, -1, 0);
        add(steps, "alsoFor", 0, 0);
        add(steps, "alsoFor", 0, 0);
        add(steps, "setScope", 1, 0);
        add(steps, "setCondition", 2, 10);
        add(steps, "setContainer", 0, true);
        valuesOf(steps);
        int[] properties = {0, 1, 2, 3, 8, 9};
        for (int property : properties) {
            add(steps, "declare", 0, property, property % 3, property == 3);
        }
        for (int i = 0; i < 5; i++) {
            add(steps, "declare", 1, i + 3, i, i == 2);
        }
        add(steps, "refresh");
        add(steps, "removeElement", 5);
        add(steps, "addElement", 4, 0, 1, 1);
        add(steps, "setWindow", 900);
        add(steps, "declare", 2, 0, 1, true);
        add(steps, "setClasses", 1, 7);
        return steps;
    }

    /** 0 to 4 are parts, 5 to 9 cannot be parts; 10, 11 and 12 have 7, 11 and 12 parts. */
    private static void valuesOf(List<Step> steps) {
        add(steps, "value", 'n', 5, 0);
        add(steps, "value", 'e', 50, 0);
        add(steps, "value", '%', 10, 0);
        add(steps, "value", 'v', 6, -1);
        add(steps, "value", '+', 0, 1);
        for (char kind : "iourl".toCharArray()) {
            add(steps, "value", kind, 0, 0);
        }
        add(steps, "value", '+', 4, 4);
        add(steps, "value", '+', 10, 4);
        add(steps, "value", 'v', 5, 11);
    }

    /** As many of everything as can be, the rules 0 and 1 having 6 and 5 declarations. */
    private static List<Step> full() {
        List<Step> steps = new ArrayList<>();
        for (int i = 1; i < 30; i++) {
            add(steps, "addElement", i < 5 ? i - 1 : i % 5, 0, i % 4, i * 7 % 64);
        }
        for (int i = 0; i < 60; i++) {
            add(steps, "compound", i % 5 - 1, i % 3 == 0 ? 1 << i % 6 : 0, 0, false);
        }
        for (int i = 0; i < 40; i++) {
            add(steps, "selector", i);
        }
        for (int i = 0; i < 3; i++) {
            add(steps, "join", 2, ' ', 0);
        }
        for (int i = 0; i < 8; i++) {
            add(steps, "addLayer", i % 3, i < 3 ? -1 : i - 3);
        }
        for (int i = 0; i < 16; i++) {
            add(steps, "addRule", i % 3, i % 2 == 0 ? -1 : i % 3, i % 2);
        }
        add(steps, "alsoFor", 0, 5);
        add(steps, "alsoFor", 0, 0);
        valuesOf(steps);
        while (steps.stream().filter(step -> step.name().equals("value")).count() < 80) {
            add(steps, "value", 'n', 7, 0);
        }
        for (int i = 0; i < 6; i++) {
            add(steps, "declare", 0, i, i % 5, false);
        }
        for (int i = 0; i < 5; i++) {
            add(steps, "declare", 1, 9 - i, i, false);
        }
        add(steps, "declare", 2, 9, 0, true);
        add(steps, "refresh");
        add(steps, "removeElement", 29);
        add(steps, "declare", 2, 0, 1, true);
        return steps;
    }

    // ---- the calls

    private int play() {
        for (int probe = 0; probe < PROBES; probe++) {
            Cascadum x = new Cascadum();
            building.forEach(step -> step.on(x));
            untouched.add(probe(x, probe));
        }
        tree();
        selectors();
        layersAndRules();
        values();
        declarations();
        styles();
        compare();
        return refusals;
    }

    /** Makes one call on a new object and on a new model; what is refused waits to be looked at. */
    private void attempt(String name, Object... arguments) {
        Step step = new Step(name, arguments);
        Cascadum x = new Cascadum();
        Model m = new Model();
        for (Step before : building) {
            before.on(x);
            before.on(m);
        }
        String got = answer(() -> step.on(x));
        expect(world + ": " + step.told(), answer(() -> step.on(m)), got);
        if (got.contains("throws")) {
            refusals++;
            waiting.add(step);
        }
        if (waiting.size() == AT_ONCE) {
            compare();
        }
    }

    private void compare() {
        for (int probe = 0; probe < PROBES; probe++) {
            Cascadum x = new Cascadum();
            building.forEach(step -> step.on(x));
            for (Step step : waiting) {
                answer(() -> step.on(x));
            }
            List<String> got = probe(x, probe);
            List<String> want = untouched.get(probe);
            for (int i = 0; i < want.size(); i++) {
                expect(world + ", behind " + waiting.get(0).told() + " and more", want.get(i), got.get(i));
            }
        }
        waiting.clear();
    }

    private int limit(int inUse, int full) {
        return world.equals("new") ? 0 : world.equals("full") ? full : inUse;
    }

    /** What is there, and what is not, of things that are numbered from 0. */
    private int[] numbers(int count, int... more) {
        int[] all = {-1, 0, count - 1, count, LEAST, MOST};
        int[] joined = new int[all.length + more.length];
        System.arraycopy(all, 0, joined, 0, all.length);
        System.arraycopy(more, 0, joined, all.length, more.length);
        return joined;
    }

    private int[] elements() {
        return world.equals("in use") ? numbers(8, 1, 4, 5, 6) : world.equals("full") ? numbers(30, 28) : numbers(1);
    }

    private static int[] row(int... numbers) {
        return numbers;
    }

    private void tree() {
        for (int element : elements()) {
            for (int place : row(-1, 0, 1, 2, 3, MOST)) {
                for (int tag : row(-1, 0, 3, 4)) {
                    attempt("addElement", element, place, tag, 0);
                    attempt("addElement", element, place, tag, 64);
                }
            }
            attempt("removeElement", element);
            attempt("setContainer", element, true);
            for (int parent : elements()) {
                attempt("moveElement", element, parent);
            }
            for (int classes : row(-1, 0, 63, 64, LEAST, MOST)) {
                attempt("setClasses", element, classes);
                attempt("addElement", element, 0, 0, classes);
            }
        }
        for (int width : row(-1, 0, 5000, 5001, LEAST, MOST)) {
            attempt("setWindow", width);
        }
    }

    private void selectors() {
        int compounds = limit(5, 60);
        int selectors = limit(3, 40);
        for (int tag : row(-2, -1, 3, 4)) {
            for (int classes : row(-1, 0, 63, 64)) {
                attempt("compound", tag, classes, 0, false);
                attempt("compound", tag, 0, classes, true);
            }
        }
        for (int compound : numbers(compounds, 1, 2, 3)) {
            for (int step : row(-1, 0, 5, 6)) {
                for (int first : row(0, 1, 9, 10)) {
                    attempt("place", compound, step, first, 1);
                }
            }
            for (int classes : row(-1, 0, 63, 64)) {
                attempt("place", compound, 0, 1, classes);
                attempt("below", compound, classes);
            }
            attempt("selector", compound);
            for (int selector : numbers(selectors, 1, 2)) {
                attempt("join", selector, '~', compound);
                attempt("join", selector, 'x', compound);
                attempt("join", selector, (char) 0, compound);
            }
        }
    }

    private void layersAndRules() {
        int rules = limit(3, 16);
        for (int origin : row(-1, 0, 1, 2, 3)) {
            for (int layer : numbers(limit(4, 8), -2, 1, 2)) {
                attempt("addLayer", origin, layer);
                for (int selector : numbers(limit(3, 40))) {
                    attempt("addRule", origin, layer, selector);
                }
            }
        }
        for (int rule : numbers(rules, 1)) {
            for (int selector : numbers(limit(3, 40))) {
                attempt("alsoFor", rule, selector);
            }
            for (int scope : row(-2, -1, 5, 6, LEAST, MOST)) {
                attempt("setScope", rule, scope);
            }
            for (int width : row(-2, -1, 5000, 5001, LEAST, MOST)) {
                attempt("setCondition", rule, width);
            }
            for (int index : row(-1, 0, 4, 5, 6, MOST)) {
                attempt("dropDeclaration", rule, index);
            }
        }
    }

    private void values() {
        int count = limit(13, 80);
        for (char kind : "ne%".toCharArray()) {
            for (int number : row(-10000, -9999, 9999, 10000, LEAST, MOST)) {
                attempt("value", kind, number, -1);
            }
        }
        for (char kind : "iourlxN".toCharArray()) {
            attempt("value", kind, MOST, LEAST);
        }
        for (int part : numbers(count, -2, 3, 5, 6, 7, 8, 9, 10, 11, 12)) {
            for (int property : row(4, 5, 7, 8, -1, MOST)) {
                attempt("value", 'v', property, part);
            }
            for (int other : numbers(count, 5, 10, 11, 12)) {
                attempt("value", '+', part, other);
            }
            attempt("value", 'x', part, part);
        }
    }

    private void declarations() {
        int[] values = numbers(limit(13, 80), -2, 7);
        for (int rule : numbers(limit(3, 16), 1, 2)) {
            for (int value : values) {
                for (int property : row(-1, 0, 9, 10)) {
                    attempt("declare", rule, property, value, true);
                }
                for (int margin : values) {
                    attempt("declareBox", rule, value, margin, false);
                }
            }
        }
    }

    private void styles() {
        for (int element : elements()) {
            for (int property : row(-1, 0, 2, 5, 8, 9, 10)) {
                attempt("computed", element, property);
                attempt("computedAnew", element, property);
                attempt("candidates", element, property);
                for (int index : row(-1, 0, 1, 2, 3, MOST)) {
                    attempt("candidateAt", element, property, index);
                }
            }
            attempt("width", element);
            attempt("counter", element);
            attempt("counters", element);
            for (int selector : numbers(limit(3, 40))) {
                attempt("matches", selector, element);
            }
        }
        for (int selector : numbers(limit(3, 40))) {
            attempt("weight", selector);
        }
        attempt("sharedShare");
        attempt("meanStyled");
    }

    // ---- what is looked at

    private List<String> probe(Cascadum x, int kind) {
        List<String> told = new ArrayList<>();
        switch (kind) {
            case 0 -> numbersOf(x, told, false);
            case 1 -> numbersOf(x, told, true);
            case 2 -> treeOf(x, told);
            case 3 -> selectorsOf(x, told);
            default -> rulesOf(x, told);
        }
        if (building.size() + AT_ONCE + told.size() > CALLS) {
            throw new AssertionError("too many calls: " + (building.size() + AT_ONCE + told.size()));
        }
        return told;
    }

    private static void tell(List<String> told, String what, Call call) {
        told.add(what + " " + answer(call));
    }

    private void numbersOf(Cascadum x, List<String> told, boolean isRefreshed) {
        if (isRefreshed) {
            tell(told, "refresh", x::refresh);
        }
        tell(told, "isTrue", x::isTrue);
        tell(told, "styled", x::styled);
        tell(told, "shared", x::shared);
        tell(told, "widths", x::widths);
        tell(told, "sharedShare", x::sharedShare);
        tell(told, "meanStyled", x::meanStyled);
        int few = limit(8, 30);
        for (int i = 0; i <= few; i += few > 8 ? 5 : 1) {
            int element = i;
            for (int p = 0; p < 10; p++) {
                int property = p;
                tell(told, "computed", () -> x.computed(element, property));
                tell(told, "candidates", () -> x.candidates(element, property));
            }
            tell(told, "width", () -> x.width(element));
            tell(told, "counter", () -> x.counter(element));
            tell(told, "counters", () -> x.counters(element));
            for (int index = 0; index < 4; index++) {
                int at = index;
                tell(told, "candidateAt", () -> x.candidateAt(element, 0, at));
            }
        }
    }

    private void treeOf(Cascadum x, List<String> told) {
        int elements = limit(8, 30);
        for (int selector = 0; selector < limit(3, 3); selector++) {
            int one = selector;
            for (int i = 0; i <= elements; i++) {
                int element = i;
                tell(told, "matches", () -> x.matches(one, element));
            }
        }
        for (int i = 0; i <= elements; i++) {
            int element = i;
            tell(told, "setClasses", () -> x.setClasses(element, 0));
            tell(told, "setContainer", () -> x.setContainer(element, false));
        }
        tell(told, "setWindow", () -> x.setWindow(10));
        tell(told, "addElement", () -> x.addElement(0, 0, 0, 0));
        tell(told, "removeElement", () -> x.removeElement(1));
        tell(told, "refresh", x::refresh);
        tell(told, "widths", x::widths);
    }

    private void selectorsOf(Cascadum x, List<String> told) {
        int compounds = limit(5, 60);
        int selectors = limit(3, 40);
        for (int i = 0; i <= selectors; i++) {
            int selector = i;
            tell(told, "weight", () -> x.weight(selector));
            tell(told, "matches", () -> x.matches(selector, 0));
        }
        for (int i = 0; i <= compounds; i++) {
            int compound = i;
            tell(told, "place", () -> x.place(compound, 0, 1, 0));
            tell(told, "below", () -> x.below(compound, 0));
        }
        tell(told, "selector", () -> x.selector(0));
        tell(told, "compound", () -> x.compound(0, 0, 0, false));
        tell(told, "refresh", x::refresh);
    }

    private void rulesOf(Cascadum x, List<String> told) {
        for (int i = 0; i <= limit(3, 16); i++) {
            int rule = i;
            tell(told, "setScope", () -> x.setScope(rule, 0));
            tell(told, "setCondition", () -> x.setCondition(rule, 0));
            tell(told, "alsoFor", () -> x.alsoFor(rule, 0));
            tell(told, "dropDeclaration", () -> x.dropDeclaration(rule, 5));
            tell(told, "declareBox", () -> x.declareBox(rule, 0, 0, false));
            tell(told, "declare", () -> x.declare(rule, 0, 0, false));
            tell(told, "dropDeclaration", () -> x.dropDeclaration(rule, 0));
        }
        for (int i = 0; i <= limit(3, 40); i++) {
            int selector = i;
            tell(told, "join", () -> x.join(selector, '>', 0));
        }
        tell(told, "addLayer", () -> x.addLayer(0, -1));
        tell(told, "addRule", () -> x.addRule(0, -1, 0));
        tell(told, "value", () -> x.value('n', 0, 0));
        tell(told, "refresh", x::refresh);
        tell(told, "widths", x::widths);
    }
}
