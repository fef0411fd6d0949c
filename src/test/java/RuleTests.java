/** Promises 13 to 17 and 28 to 30: layers, rules, and what wins. */
public final class RuleTests extends Checks {
    public static void main(String[] args) {
        addLayer();
        addRule();
        alsoFor();
        alsoForWeight();
        setScope();
        scopeMatches();
        setCondition();
        conditionMatches();
        origins();
        layerOrder();
        layersWithinLayers();
        nearnessWeightAndOrder();
        winnerAndCandidates();
        asOfTheLastRefresh();
        close("RuleTests");
    }

    /** A root with one child of class 0 and a selector 0 for the class 0. */
    private static Cascadum small() {
        Cascadum x = new Cascadum();
        x.addElement(0, 0, 0, 1);
        x.selector(x.compound(-1, 1, 0, false));
        return x;
    }

    private static int ruleWith(Cascadum x, int origin, int layer, int number, boolean isImportant) {
        int rule = x.addRule(origin, layer, 0);
        x.declare(rule, 3, x.value('n', number, 0), isImportant);
        return rule;
    }

    /** The rules that declare a property of an element, from the one that wins on. */
    private static String row(Cascadum x, int element, int property) {
        StringBuilder text = new StringBuilder();
        for (int i = 0; i < x.candidates(element, property); i++) {
            text.append(x.candidateAt(element, property, i)).append(' ');
        }
        return text.toString().trim();
    }

    private static void addLayer() {
        Cascadum x = new Cascadum();
        refused("13: no such layer", INDEX, () -> x.addLayer(0, 0));
        refused("13: below -1", INDEX, () -> x.addLayer(0, -2));
        refused("13: the layer is looked at ahead", INDEX, () -> x.addLayer(3, 0));
        refused("13: the origin 3", ARGUMENT, () -> x.addLayer(3, -1));
        refused("13: the origin -1", ARGUMENT, () -> x.addLayer(-1, -1));
        due("13: the first one is 0", 0, () -> x.addLayer(2, -1));
        due("13: the next one is 1", 1, () -> x.addLayer(2, 0));
        refused("13: within one of another origin", ARGUMENT, () -> x.addLayer(1, 0));
        refused("13: an origin that is not, within one", ARGUMENT, () -> x.addLayer(3, 0));
        for (int i = 2; i < 8; i++) {
            int want = i;
            due("13: up to 8", want, () -> x.addLayer(2, want - 1));
        }
        refused("13: there are 8", STATE, () -> x.addLayer(0, -1));
        refused("13: the origin is looked at ahead", ARGUMENT, () -> x.addLayer(1, 3));
    }

    private static void addRule() {
        Cascadum x = new Cascadum();
        refused("14: no such selector", INDEX, () -> x.addRule(0, -1, 0));
        x.selector(x.compound(-1, 0, 0, false));
        refused("14: no such layer", INDEX, () -> x.addRule(0, 0, 0));
        refused("14: a layer below -1", INDEX, () -> x.addRule(0, -2, 0));
        refused("14: a selector below 0", INDEX, () -> x.addRule(0, -1, -1));
        refused("14: the origin 3", ARGUMENT, () -> x.addRule(3, -1, 0));
        refused("14: the origin -1", ARGUMENT, () -> x.addRule(-1, -1, 0));
        refused("14: the selector is looked at ahead", INDEX, () -> x.addRule(3, -1, 1));
        x.addLayer(1, -1);
        refused("14: a layer of another origin", ARGUMENT, () -> x.addRule(2, 0, 0));
        due("14: the first one is 0", 0, () -> x.addRule(1, 0, 0));
        for (int i = 1; i < 16; i++) {
            int want = i;
            due("14: up to 16", want, () -> x.addRule(want % 3, -1, 0));
        }
        refused("14: there are 16", STATE, () -> x.addRule(0, -1, 0));
        refused("14: the layer is looked at ahead", ARGUMENT, () -> x.addRule(0, 0, 0));
    }

    private static void alsoFor() {
        Cascadum x = small();
        refused("15: no such rule", INDEX, () -> x.alsoFor(0, 0));
        x.addRule(2, -1, 0);
        refused("15: below 0", INDEX, () -> x.alsoFor(-1, 0));
        refused("15: no such selector", INDEX, () -> x.alsoFor(0, 1));
        refused("15: a selector below 0", INDEX, () -> x.alsoFor(0, -1));
        due("15: two", 2, () -> x.alsoFor(0, 0));
        int root = x.selector(x.compound(-1, 0, 1, false));
        x.declare(0, 3, x.value('n', 4, 0), false);
        x.refresh();
        refused("15: it does not match the root", NONE, () -> x.winner(0, 3));
        due("15: three", 3, () -> x.alsoFor(0, root));
        refused("15: it has three", STATE, () -> x.alsoFor(0, 0));
        refused("15: the selector is looked at ahead", INDEX, () -> x.alsoFor(0, 9));
        due("15: what matches now is styled, and what is below it", 2, x::refresh);
        due("15: one of its selectors is enough", 0, () -> x.winner(0, 3));
    }

    private static void alsoForWeight() {
        Cascadum x = small();
        int heavy = x.selector(x.compound(0, 1, 2, false));
        int elsewhere = x.selector(x.compound(0, 2, 1, true));
        ruleWith(x, 2, -1, 1, false);
        ruleWith(x, 2, -1, 2, false);
        x.alsoFor(0, elsewhere);
        x.refresh();
        due("15: what does not match gives no weight", 2, () -> x.computed(1, 3));
        x.alsoFor(0, heavy);
        due("15: another weight", 1, x::refresh);
        due("15: the greatest weight counts", 1, () -> x.computed(1, 3));
        x.alsoFor(1, 0);
        due("15: the same weight changes nothing", 0, x::refresh);
        due("15: and the rule has two", 3, () -> x.alsoFor(1, 0));
    }

    private static void setScope() {
        Cascadum x = small();
        refused("16: no such rule", INDEX, () -> x.setScope(0, 0));
        x.addRule(2, -1, 0);
        refused("16: below 0", INDEX, () -> x.setScope(-1, 0));
        due("16: none before", -1, () -> x.setScope(0, 5));
        due("16: the scope before", 5, () -> x.setScope(0, 0));
        refused("16: the class 6", ARGUMENT, () -> x.setScope(0, 6));
        refused("16: the class -2", ARGUMENT, () -> x.setScope(0, -2));
        refused("16: the rule is looked at ahead", INDEX, () -> x.setScope(1, 6));
        due("16: none again", 0, () -> x.setScope(0, -1));
    }

    private static void scopeMatches() {
        Cascadum x = small();
        x.addElement(1, 0, 0, 1);
        x.addElement(2, 0, 0, 3);
        ruleWith(x, 2, -1, 5, false);
        x.setScope(0, 1);
        x.refresh();
        due("16: not without the class", 0, () -> x.candidates(2, 3));
        due("16: on the one that has it", 1, () -> x.candidates(3, 3));
        x.setClasses(1, 3);
        due("16: it and what is below it match", 3, x::refresh);
        due("16: below the one that has it", 1, () -> x.candidates(2, 3));
        x.setClasses(3, 1);
        due("16: another nearness", 1, x::refresh);
        due("16: it matches all the same", 1, () -> x.candidates(3, 3));
        x.setScope(0, -1);
        due("16: without a scope all are as far", 3, x::refresh);
        scopeFromFar();
    }

    /** The deepest tree that can be: the root gives the scope, and the container, for the last one. */
    private static void scopeFromFar() {
        Cascadum x = new Cascadum();
        x.setClasses(0, 32);
        for (int i = 1; i < 30; i++) {
            x.addElement(i - 1, 0, 0, 1);
        }
        x.selector(x.compound(-1, 1, 0, false));
        ruleWith(x, 2, -1, 5, false);
        x.setScope(0, 5);
        x.setContainer(0, true);
        x.setCondition(0, 1000);
        x.refresh();
        due("16: from the root to the last of 30", 1, () -> x.candidates(29, 3));
        due("17: likewise", 5, () -> x.computed(29, 3));
        x.setClasses(0, 0);
        due("16: nothing gives the scope", 29, x::refresh);
        due("16: it matches no longer", 0, () -> x.candidates(29, 3));
    }

    private static void setCondition() {
        Cascadum x = small();
        refused("17: no such rule", INDEX, () -> x.setCondition(0, 0));
        x.addRule(2, -1, 0);
        refused("17: below 0", INDEX, () -> x.setCondition(-1, 0));
        due("17: none before", -1, () -> x.setCondition(0, 0));
        due("17: the one before", 0, () -> x.setCondition(0, 5000));
        refused("17: 5001", ARGUMENT, () -> x.setCondition(0, 5001));
        refused("17: -2", ARGUMENT, () -> x.setCondition(0, -2));
        refused("17: the rule is looked at ahead", INDEX, () -> x.setCondition(1, -2));
        due("17: none again", 5000, () -> x.setCondition(0, -1));
    }

    private static void conditionMatches() {
        Cascadum x = small();
        x.addElement(1, 0, 0, 1);
        ruleWith(x, 2, -1, 5, false);
        x.setCondition(0, 0);
        x.refresh();
        due("17: no container above", 0, () -> x.candidates(1, 3));
        x.setContainer(1, true);
        due("17: itself is none for it", 1, x::refresh);
        due("17: 1 has none", 0, () -> x.candidates(1, 3));
        due("17: 2 has one", 1, () -> x.candidates(2, 3));
        x.setContainer(0, true);
        x.setCondition(0, 991);
        due("17: the root is one for 1 alone", 2, x::refresh);
        due("17: 1000 is enough for 991", 5, () -> x.computed(1, 3));
        due("17: 1 is 990 wide in this refresh()", 0, () -> x.computed(2, 3));
        x.setCondition(0, 990);
        due("17: not less is enough", 1, x::refresh);
        due("17: it matches", 5, () -> x.computed(2, 3));
        x.setContainer(1, false);
        x.setWindow(990);
        due("17: the next container above counts", 0, x::refresh);
        x.setWindow(989);
        due("17: it is too narrow now", 2, x::refresh);
        due("17: for both", 0, () -> x.computed(2, 3));
    }

    private static void origins() {
        Cascadum x = small();
        int[] origins = {2, 0, 1, 2, 0, 1};
        for (int i = 0; i < origins.length; i++) {
            ruleWith(x, origins[i], -1, i, i > 2);
        }
        x.refresh();
        due("28: importance, then the origin, the other way round for important ones", "4 5 3 0 2 1",
                () -> row(x, 1, 3));
    }

    private static void layerOrder() {
        Cascadum x = small();
        x.addLayer(2, -1);
        x.addLayer(2, -1);
        x.addLayer(2, 0);
        x.addLayer(2, 2);
        x.addLayer(2, 0);
        x.addLayer(2, 1);
        for (int layer = -1; layer < 6; layer++) {
            ruleWith(x, 2, layer, layer, false);
        }
        for (int layer = -1; layer < 6; layer++) {
            ruleWith(x, 2, layer, layer, true);
        }
        x.refresh();
        due("13: the order of layers, the other way round for important ones",
                "11 10 12 8 13 9 7 0 2 6 1 5 3 4", () -> row(x, 1, 3));
    }

    /** Eight layers, each within the one ahead of it. */
    private static void layersWithinLayers() {
        Cascadum x = small();
        for (int i = 0; i < 8; i++) {
            x.addLayer(1, i - 1);
        }
        for (int i = 0; i < 8; i++) {
            ruleWith(x, 1, (i * 3 + 4) % 8, i, false);
            ruleWith(x, 1, (i * 3 + 4) % 8, i, true);
        }
        x.refresh();
        due("13: what is further in comes first", "3 13 7 1 11 5 15 9 8 14 4 10 0 6 12 2", () -> row(x, 1, 3));
    }

    private static void nearnessWeightAndOrder() {
        Cascadum x = new Cascadum();
        x.addElement(0, 0, 0, 2);
        x.addElement(1, 0, 0, 5);
        x.selector(x.compound(-1, 1, 0, false));
        int heavy = x.selector(x.compound(0, 5, 8, true));
        for (int i = 0; i < 3; i++) {
            ruleWith(x, 2, -1, i, false);
        }
        for (int i = 3; i < 5; i++) {
            int rule = x.addRule(2, -1, heavy);
            x.declare(rule, 3, x.value('n', i, 0), false);
            x.declare(rule, 3, x.value('n', 10 + i, 0), false);
        }
        x.setScope(0, 2);
        x.setScope(1, 1);
        x.refresh();
        due("28: nearness, weight, number and place", "0 1 4 4 3 3 2", () -> row(x, 2, 3));
        x.setScope(0, -1);
        x.setScope(1, -1);
        x.refresh();
        due("28: the same without scopes", "4 4 3 3 2 1 0", () -> row(x, 2, 3));
        due("28: the place in the rule", 14, () -> x.computed(2, 3));
        x.dropDeclaration(4, 1);
        x.refresh();
        due("28: the one ahead of it", 4, () -> x.computed(2, 3));
    }

    private static void winnerAndCandidates() {
        Cascadum x = small();
        refused("28: not styled yet", STATE, () -> x.winner(1, 3));
        refused("29: not styled yet", STATE, () -> x.candidates(1, 3));
        refused("30: not styled yet", STATE, () -> x.candidateAt(1, 3, 0));
        ruleWith(x, 2, -1, 1, false);
        int back = x.addRule(2, -1, 0);
        x.declare(back, 3, x.value('r', 0, 0), false);
        x.declareBox(back, -1, -1, true);
        x.refresh();
        due("28: ahead of what it turns back to", 1, () -> x.winner(1, 3));
        due("28: none of it", 1, () -> x.winner(1, 2));
        refused("28: none declares it there", NONE, () -> x.winner(1, 0));
        refused("28: nor for the root", NONE, () -> x.winner(0, 3));
        due("29: how many", 3, () -> x.candidates(1, 3));
        due("29: of another property", 1, () -> x.candidates(1, 2));
        due("29: none", 0, () -> x.candidates(1, 9));
        due("30: the row", "1 1 0", () -> row(x, 1, 3));
        refused("30: behind the last one", NONE, () -> x.candidateAt(1, 3, 3));
        refused("30: below 0", NONE, () -> x.candidateAt(1, 3, -1));
        refused("28: no such element", INDEX, () -> x.winner(2, 10));
        refused("29: no such element", INDEX, () -> x.candidates(-1, 10));
        refused("30: no such element", INDEX, () -> x.candidateAt(2, 10, 0));
        refused("28: the property 10", ARGUMENT, () -> x.winner(1, 10));
        refused("28: the property -1", ARGUMENT, () -> x.winner(1, -1));
        refused("29: the property 10", ARGUMENT, () -> x.candidates(1, 10));
        refused("29: the property -1", ARGUMENT, () -> x.candidates(1, -1));
        refused("30: the property 10", ARGUMENT, () -> x.candidateAt(1, 10, 0));
        refused("30: the property -1", ARGUMENT, () -> x.candidateAt(1, -1, -1));
        x.removeElement(1);
        refused("28: it was removed", STATE, () -> x.winner(1, 3));
        refused("29: it was removed", STATE, () -> x.candidates(1, 3));
        refused("30: it was removed", STATE, () -> x.candidateAt(1, 3, 9));
        refused("30: the property is looked at ahead", ARGUMENT, () -> x.candidateAt(1, 10, 0));
    }

    private static void asOfTheLastRefresh() {
        Cascadum x = small();
        ruleWith(x, 2, -1, 1, false);
        ruleWith(x, 2, -1, 2, false);
        x.refresh();
        x.dropDeclaration(1, 0);
        x.declare(0, 2, x.value('n', 1, 0), false);
        ruleWith(x, 2, -1, 3, false);
        x.setClasses(1, 0);
        due("28: as of the last refresh()", 1, () -> x.winner(1, 3));
        due("29: as of the last refresh()", 2, () -> x.candidates(1, 3));
        due("29: what is declared since does not count", 0, () -> x.candidates(1, 2));
        due("30: as of the last refresh()", "1 0", () -> row(x, 1, 3));
        x.refresh();
        refused("28: nothing matches now", NONE, () -> x.winner(1, 3));
        due("29: nothing matches now", 0, () -> x.candidates(1, 3));
    }
}
