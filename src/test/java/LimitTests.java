/** Objects that are as full as the document lets them be, each answer being the one of the model. */
public final class LimitTests extends Checks {
    private static final int CALLS = 512;
    /** By element: three of each property, and three more; behind them the matches of each selector. */
    private static final int ASKED_OF_ELEMENTS = 30 * 33;
    private static final int ASKED = ASKED_OF_ELEMENTS + 40 * 30;

    private final Cascadum x = new Cascadum();
    private final Model m = new Model();
    private final int shape;
    private int calls;

    private LimitTests(int shape) {
        this.shape = shape;
    }

    public static void main(String[] args) {
        for (int shape = 0; shape < 4; shape++) {
            int asked = 0;
            while (asked < ASKED) {
                LimitTests full = new LimitTests(shape);
                full.elements();
                full.selectors();
                full.rules();
                full.values();
                full.declarations();
                asked = full.askFrom(asked);
            }
        }
        close("LimitTests");
    }

    private void both(String what, Call one, Call other) {
        calls++;
        if (calls <= CALLS) {
            expect("shape " + shape + ": " + what, answer(other), answer(one));
        }
    }

    /** A chain, a row below the root, a tree of twos, a comb. */
    private int parentOf(int element) {
        switch (shape) {
            case 0:
                return element - 1;
            case 1:
                return 0;
            case 2:
                return (element - 1) / 2;
            default:
                return element % 2 == 0 ? element - 1 : Math.max(0, element - 2);
        }
    }

    private void elements() {
        for (int i = 1; i <= 30; i++) {
            int parent = parentOf(i);
            int classes = i * 7 % 64;
            int tag = i % 4;
            both("2: element " + i, () -> x.addElement(parent, 0, tag, classes),
                    () -> m.addElement(parent, 0, tag, classes));
        }
        for (int i = 0; i < 30; i += 3) {
            int container = i;
            both("6: container", () -> x.setContainer(container, true), () -> m.setContainer(container, true));
        }
    }

    private void selectors() {
        for (int i = 0; i <= 60; i++) {
            int part = i;
            int tag = i % 5 == 4 ? i / 5 % 4 : -1;
            int classes = i % 3 == 0 ? 1 << i % 6 : 0;
            int without = i % 7 == 6 ? 1 << i / 7 % 6 : 0;
            both("8: compound " + i, () -> x.compound(tag, classes, without, part % 11 == 10),
                    () -> m.compound(tag, classes, without, part % 11 == 10));
            if (i % 6 == 5) {
                both("9: place", () -> x.place(part, part % 4, 1 + part % 3, 0),
                        () -> m.place(part, part % 4, 1 + part % 3, 0));
            }
            if (i % 9 == 8) {
                both("10: below", () -> x.below(part, 1 << part % 6), () -> m.below(part, 1 << part % 6));
            }
        }
        for (int i = 0; i <= 40; i++) {
            int part = i;
            both("11: selector " + i, () -> x.selector(part), () -> m.selector(part));
            for (int more = 0; i % 4 == 3 && more <= i / 4 % 4; more++) {
                char by = " ~>+".charAt((i / 4 + more) % 4);
                int other = (i * 3 + more) % 60;
                both("12: join " + i, () -> x.join(part, by, other), () -> m.join(part, by, other));
            }
        }
    }

    private void rules() {
        for (int i = 0; i <= 8; i++) {
            int within = i < 4 ? i - 1 : i % 2 == 0 ? -1 : i - 1;
            int origin = i < 4 ? 2 : i / 2 % 3;
            both("13: layer " + i, () -> x.addLayer(origin, within), () -> m.addLayer(origin, within));
        }
        for (int i = 0; i <= 16; i++) {
            int rule = i;
            int layer = i % 3 == 0 ? -1 : i % 8;
            int origin = layer < 0 ? i % 3 : m.layers.get(layer).origin();
            both("14: rule " + i, () -> x.addRule(origin, layer, rule), () -> m.addRule(origin, layer, rule));
            for (int more = 1; more < (i == 0 ? 4 : 3); more++) {
                int selector = i * 2 + more;
                both("15: also for", () -> x.alsoFor(rule, selector), () -> m.alsoFor(rule, selector));
            }
            if (i % 4 == 1) {
                both("16: scope", () -> x.setScope(rule, rule % 6), () -> m.setScope(rule, rule % 6));
            }
            if (i % 4 == 2) {
                both("17: condition", () -> x.setCondition(rule, rule * 60), () -> m.setCondition(rule, rule * 60));
            }
        }
    }

    private void values() {
        for (int i = 0; i <= 80; i++) {
            char kind = "nen%iro+v+ulv".charAt(i % 13);
            int a = kind == 'v' ? 5 + i % 3 : kind == '+' ? (i * 5 + 1) % 13 % Math.max(1, i) : i * 13 - 300;
            int b = kind == 'v' && i % 2 == 0 ? -1 : i * 7 % Math.max(1, i - 20);
            both("18: value " + i, () -> x.value(kind, a, b), () -> m.value(kind, a, b));
        }
        while (m.vals.size() < 80) {
            both("18: one more value", () -> x.value('n', 7, 0), () -> m.value('n', 7, 0));
        }
    }

    private void declarations() {
        for (int i = 0; i <= 16 * 6; i++) {
            int rule = i % 16;
            int property = (i / 16 * 3 + rule) % 10;
            int value = i * 11 % m.vals.size();
            both("19: declare " + i, () -> x.declare(rule, property, value, value % 4 == 0),
                    () -> m.declare(rule, property, value, value % 4 == 0));
        }
    }

    /** Asks as much as the calls that are left let it, and returns where to go on. */
    private int askFrom(int asked) {
        both("22: refresh()", x::refresh, m::refresh);
        both("7: the window", () -> x.setWindow(801), () -> m.setWindow(801));
        both("22: refresh() again", x::refresh, m::refresh);
        both("38: isTrue()", x::isTrue, () -> true);
        both("23: shared()", x::shared, () -> m.shared);
        both("35: widths()", x::widths, m::widths);
        int next = asked;
        while (calls < CALLS && next < ASKED) {
            ask(next);
            next++;
        }
        return next > asked ? next : ASKED;
    }

    private void ask(int number) {
        if (number < ASKED_OF_ELEMENTS) {
            askOf(number / 33, number % 33 / 3, number % 3);
            return;
        }
        int selector = (number - ASKED_OF_ELEMENTS) / 30;
        int element = number % 30;
        both("31: matches " + selector, () -> x.matches(selector, element), () -> m.matches(selector, element));
    }

    private void askOf(int element, int property, int what) {
        if (property == 10 && what == 0) {
            both("27: width", () -> x.width(element), () -> m.width(element));
        } else if (property == 10 && what == 1) {
            both("33: counter", () -> x.counter(element), () -> m.counter(element));
        } else if (property == 10) {
            both("34: counters", () -> x.counters(element), () -> m.counters(element));
        } else if (what == 0) {
            both("25: computed", () -> x.computed(element, property), () -> m.computed(element, property));
        } else if (what == 1) {
            both("29: candidates", () -> x.candidates(element, property), () -> m.candidates(element, property));
        } else {
            both("30: candidateAt", () -> x.candidateAt(element, property, property % 4),
                    () -> m.candidateAt(element, property, property % 4));
        }
    }
}
