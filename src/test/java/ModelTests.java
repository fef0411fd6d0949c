import java.util.Random;

/** Long runs of calls, always the same ones, of which each answer is the one of the model. */
public final class ModelTests extends Checks {
    private static final int RUNS = 1500;
    private static final int CALLS = 512;

    private final Random random;
    private final Cascadum x = new Cascadum();
    private final Model m = new Model();
    private final int run;
    /** How much of a run builds and how much asks: by the run. */
    private final int building;
    private final boolean isWild;
    private int made;
    private boolean isBroken;

    private ModelTests(int run) {
        this.run = run;
        random = new Random(7919L * run + 1);
        building = 40 + run % 7 * 40;
        isWild = run % 5 == 0;
    }

    public static void main(String[] args) {
        for (int run = 0; run < RUNS; run++) {
            new ModelTests(run).play();
        }
        close("ModelTests");
    }

    private void play() {
        while (made < CALLS && !isBroken) {
            if (made < building) {
                build();
            } else if (random.nextInt(100) < 30) {
                change();
            } else {
                ask();
            }
        }
        if (!isBroken && m.calls > 0) {
            m.refresh();
            expect("run " + run + ": the model's kept numbers", "true", String.valueOf(m.holds()));
        }
    }

    private void both(String what, Call one, Call other) {
        if (made < CALLS && !isBroken) {
            made++;
            String want = answer(other);
            String got = answer(one);
            expect("run " + run + ", call " + made + ": " + what, want, got);
            isBroken = !want.equals(got);
        }
    }

    /** From 0 to one less than the count, seldom something else; wild runs ask for anything now and then. */
    private int below(int count) {
        if (random.nextInt(isWild ? 12 : 120) == 0) {
            int[] odd = {-1, -2, count, count + 1, Integer.MAX_VALUE, Integer.MIN_VALUE, 64, 1000};
            return odd[random.nextInt(odd.length)];
        }
        return random.nextInt(Math.max(1, count));
    }

    private int between(int least, int most) {
        return least + below(most - least + 1);
    }

    /** Classes, few of them. */
    private int few() {
        int kind = random.nextInt(8);
        return kind == 0 ? between(0, 63) : kind < 3 ? 0 : kind < 7 ? 1 << random.nextInt(3) : 1 + 2 * random.nextInt(3);
    }

    private boolean coin() {
        return random.nextBoolean();
    }

    private void build() {
        int turn = random.nextInt(100);
        if (turn < 16) {
            addElement();
        } else if (turn < 28) {
            compound();
        } else if (turn < 40) {
            selector();
        } else if (turn < 44) {
            addLayer();
        } else if (turn < 52) {
            addRule();
        } else if (turn < 70) {
            value();
        } else if (turn < 94) {
            declare();
        } else if (turn < 97) {
            conditions();
        } else {
            tree();
        }
    }

    private void change() {
        int turn = random.nextInt(100);
        if (turn < 30) {
            both("refresh()", x::refresh, m::refresh);
        } else if (turn < 55) {
            tree();
        } else if (turn < 65) {
            conditions();
        } else if (turn < 80) {
            declare();
        } else {
            build();
        }
    }

    private void addElement() {
        int parent = coin() ? below(m.elements.size()) : Math.max(0, m.elements.size() - 1 - random.nextInt(4));
        boolean isThere = parent >= 0 && parent < m.elements.size();
        int place = between(0, isThere ? m.elements.get(parent).children.size() : 0);
        int tag = between(0, 3) % 3;
        int classes = few();
        both("addElement(" + parent + ", " + place + ", " + tag + ", " + classes + ")",
                () -> x.addElement(parent, place, tag, classes), () -> m.addElement(parent, place, tag, classes));
    }

    private void tree() {
        int element = below(m.elements.size());
        int turn = random.nextInt(20);
        if (turn < 2) {
            both("removeElement(" + element + ")", () -> x.removeElement(element), () -> m.removeElement(element));
        } else if (turn < 7) {
            int parent = below(m.elements.size());
            both("moveElement(" + element + ", " + parent + ")",
                    () -> x.moveElement(element, parent), () -> m.moveElement(element, parent));
        } else if (turn < 12) {
            int classes = few();
            both("setClasses(" + element + ", " + classes + ")",
                    () -> x.setClasses(element, classes), () -> m.setClasses(element, classes));
        } else if (turn < 15) {
            boolean is = random.nextInt(3) > 0;
            both("setContainer(" + element + ", " + is + ")",
                    () -> x.setContainer(element, is), () -> m.setContainer(element, is));
        } else if (turn < 18) {
            int width = coin() ? between(0, 5000) : 100 * random.nextInt(11);
            both("setWindow(" + width + ")", () -> x.setWindow(width), () -> m.setWindow(width));
        } else {
            addElement();
        }
    }

    private void compound() {
        int tag = between(-1, 3) % 3;
        int classes = coin() ? few() : 0;
        int without = random.nextInt(4) == 0 ? few() : 0;
        boolean isEmpty = random.nextInt(8) == 0;
        both("compound(" + tag + ", " + classes + ", " + without + ", " + isEmpty + ")",
                () -> x.compound(tag, classes, without, isEmpty), () -> m.compound(tag, classes, without, isEmpty));
        int last = coin() ? m.parts.size() - 1 : below(m.parts.size());
        if (random.nextInt(4) == 0) {
            int step = between(0, 5);
            int first = coin() ? between(1, 3) : between(1, 9);
            int counted = few();
            both("place(" + last + ", " + step + ", " + first + ", " + counted + ")",
                    () -> x.place(last, step, first, counted), () -> m.place(last, step, first, counted));
        }
        if (random.nextInt(6) == 0) {
            int under = few();
            both("below(" + last + ", " + under + ")", () -> x.below(last, under), () -> m.below(last, under));
        }
    }

    private void selector() {
        if (coin()) {
            int part = below(m.parts.size());
            both("selector(" + part + ")", () -> x.selector(part), () -> m.selector(part));
            return;
        }
        int selector = coin() ? m.rows.size() - 1 : below(m.rows.size());
        int part = below(m.parts.size());
        char by = random.nextInt(30) == 0 ? (char) random.nextInt(300) : " >+~".charAt(random.nextInt(4));
        both("join(" + selector + ", " + (int) by + ", " + part + ")",
                () -> x.join(selector, by, part), () -> m.join(selector, by, part));
    }

    private int origin() {
        return random.nextInt(3) > 0 ? 2 : between(0, 2);
    }

    private void addLayer() {
        int origin = origin();
        int within = coin() ? -1 : below(m.layers.size());
        both("addLayer(" + origin + ", " + within + ")",
                () -> x.addLayer(origin, within), () -> m.addLayer(origin, within));
    }

    private void addRule() {
        int origin = origin();
        int layer = coin() ? -1 : below(m.layers.size());
        int selector = below(m.rows.size());
        if (random.nextInt(4) > 0) {
            both("addRule(" + origin + ", " + layer + ", " + selector + ")",
                    () -> x.addRule(origin, layer, selector), () -> m.addRule(origin, layer, selector));
        } else {
            int rule = below(m.rules.size());
            both("alsoFor(" + rule + ", " + selector + ")",
                    () -> x.alsoFor(rule, selector), () -> m.alsoFor(rule, selector));
        }
    }

    private void conditions() {
        int rule = below(m.rules.size());
        if (coin()) {
            int scope = random.nextInt(3) == 0 ? -1 : between(0, 5) % 4;
            both("setScope(" + rule + ", " + scope + ")", () -> x.setScope(rule, scope), () -> m.setScope(rule, scope));
        } else {
            int width = random.nextInt(3) == 0 ? -1 : coin() ? 100 * random.nextInt(11) : between(0, 5000);
            both("setCondition(" + rule + ", " + width + ")",
                    () -> x.setCondition(rule, width), () -> m.setCondition(rule, width));
        }
    }

    private void value() {
        char kind = "nnnnnee%%%++++vvvvviourlrl".charAt(random.nextInt(26));
        if (random.nextInt(60) == 0) {
            kind = (char) random.nextInt(128);
        }
        char told = kind;
        int a = kind == '+' ? below(m.vals.size()) : kind == 'v' ? between(5, 7)
                : coin() ? between(-9999, 9999) : between(0, 200);
        int b = kind == '+' || coin() ? below(m.vals.size()) : -1;
        both("value(" + (int) told + ", " + a + ", " + b + ")", () -> x.value(told, a, b), () -> m.value(told, a, b));
    }

    private void declare() {
        int rule = below(m.rules.size());
        int turn = random.nextInt(10);
        int value = below(m.vals.size());
        boolean isImportant = random.nextInt(5) == 0;
        if (turn < 7) {
            int property = random.nextInt(3) == 0 ? between(5, 7) : between(0, 9);
            both("declare(" + rule + ", " + property + ", " + value + ", " + isImportant + ")",
                    () -> x.declare(rule, property, value, isImportant),
                    () -> m.declare(rule, property, value, isImportant));
        } else if (turn < 8) {
            int margin = coin() ? -1 : below(m.vals.size());
            int width = coin() ? -1 : value;
            both("declareBox(" + rule + ", " + width + ", " + margin + ", " + isImportant + ")",
                    () -> x.declareBox(rule, width, margin, isImportant),
                    () -> m.declareBox(rule, width, margin, isImportant));
        } else {
            int index = below(3);
            both("dropDeclaration(" + rule + ", " + index + ")",
                    () -> x.dropDeclaration(rule, index), () -> m.dropDeclaration(rule, index));
        }
    }

    private void ask() {
        int element = below(m.elements.size());
        int property = below(10);
        int turn = random.nextInt(24);
        String at = "(" + element + ", " + property + ")";
        if (turn < 7) {
            both("computed" + at, () -> x.computed(element, property), () -> m.computed(element, property));
        } else if (turn < 9) {
            both("computedAnew" + at, () -> x.computedAnew(element, property), () -> m.computedAnew(element, property));
        } else if (turn < 11) {
            both("width(" + element + ")", () -> x.width(element), () -> m.width(element));
        } else if (turn < 12) {
            both("winner" + at, () -> x.winner(element, property), () -> m.candidateAt(element, property, 0));
        } else if (turn < 13) {
            both("candidates" + at, () -> x.candidates(element, property), () -> m.candidates(element, property));
        } else if (turn < 15) {
            int index = below(4);
            both("candidateAt" + at + " " + index, () -> x.candidateAt(element, property, index),
                    () -> m.candidateAt(element, property, index));
        } else if (turn < 17) {
            int selector = below(m.rows.size());
            both("matches(" + selector + ", " + element + ")",
                    () -> x.matches(selector, element), () -> m.matches(selector, element));
        } else if (turn < 19) {
            both("counter(" + element + ")", () -> x.counter(element), () -> m.counter(element));
        } else if (turn < 20) {
            both("counters(" + element + ")", () -> x.counters(element), () -> m.counters(element));
        } else {
            askForAll();
        }
    }

    private void askForAll() {
        int turn = random.nextInt(7);
        if (turn == 0) {
            both("shared()", x::shared, () -> m.shared);
        } else if (turn == 1) {
            both("styled()", x::styled, () -> m.styled);
        } else if (turn == 2) {
            both("widths()", x::widths, m::widths);
        } else if (turn == 3) {
            both("sharedShare()", x::sharedShare, m::sharedShare);
        } else if (turn == 4) {
            both("meanStyled()", x::meanStyled, m::meanStyled);
        } else if (turn == 5) {
            both("isTrue()", x::isTrue, () -> true);
        } else {
            int selector = below(m.rows.size());
            both("weight(" + selector + ")", () -> x.weight(selector), () -> m.weight(selector));
        }
    }
}
