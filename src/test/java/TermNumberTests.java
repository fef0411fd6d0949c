/** The sentences of "Terms" on the cascade, properties, values, reckoning and layout that name a bound or an edge. */
public final class TermNumberTests extends Checks {
    private static final int HELD = 999999;
    private static final int[] ALL = {0, 1, 2, 3, 4, 5, 6, 7, 8, 9};

    public static void main(String[] args) {
        eachStepOfTheCascade();
        atFirst();
        hundredthsOfTheFont();
        hundredthsAreCut();
        hundredthsOfTheWidth();
        percentCannotBe();
        percentInPart();
        sumsByThemselves();
        fontsAreHeld();
        fontHundredthsAreHeld();
        widthHundredthsAreHeld();
        sumsAreHeld();
        ownValues();
        otherValues();
        inheritedAndAtFirst();
        turnedBackToNothing();
        turnedBackByOrigin();
        turnedBackByLayer();
        turnedBackAmongEightLayers();
        inOneOrMoreSteps();
        twelveParts();
        rings();
        ringsByOtherValues();
        besideRings();
        ownForTheFont();
        nothingGiven();
        inheritedAsNumbers();
        layoutOfTheWindow();
        layoutByMargins();
        layoutByNumbers();
        close("TermNumberTests");
    }

    // ---- what the tests share

    /** The root 0, 1 below it and 2 below that; the rule i is for the element i alone. */
    private static Cascadum three() {
        Cascadum x = new Cascadum();
        x.addElement(0, 0, 1, 0);
        x.addElement(1, 0, 2, 0);
        for (int i = 0; i < 3; i++) {
            x.addRule(2, -1, x.selector(x.compound(i, 0, 0, false)));
        }
        return x;
    }

    private static int n(Cascadum x, int number) {
        return x.value('n', number, 0);
    }

    private static int e(Cascadum x, int number) {
        return x.value('e', number, 0);
    }

    private static int percent(Cascadum x, int number) {
        return x.value('%', number, 0);
    }

    private static int own(Cascadum x, int property, int other) {
        return x.value('v', property, other);
    }

    private static int sum(Cascadum x, int one, int other) {
        return x.value('+', one, other);
    }

    private static int bare(Cascadum x, char kind) {
        return x.value(kind, 0, 0);
    }

    private static void give(Cascadum x, int rule, int property, int value) {
        x.declare(rule, property, value, false);
    }

    private static void number(String what, int want, Cascadum x, int element, int property) {
        due(what, want, () -> x.computed(element, property));
        due(what + ", found anew", want, () -> x.computedAnew(element, property));
    }

    private static void none(String what, Cascadum x, int element, int property) {
        refused(what, NONE, () -> x.computed(element, property));
        refused(what + ", found anew", NONE, () -> x.computedAnew(element, property));
    }

    private static String row(Cascadum x, int element, int property) {
        StringBuilder text = new StringBuilder();
        for (int i = 0; i < x.candidates(element, property); i++) {
            text.append(' ').append(x.candidateAt(element, property, i));
        }
        return text.toString().trim();
    }

    // ---- the cascade

    /** Each step decides between two rules, though all that comes behind it speaks for the other one. */
    private static void eachStepOfTheCascade() {
        due("important ones are later, whatever the origin", "0 1", () -> pair(0, 2, true, false, false, false));
        due("the origin by rising numbers", "1 0", () -> pair(0, 1, false, false, true, true));
        due("2 behind 1", "1 0", () -> pair(1, 2, false, false, true, true));
        due("by falling ones for important ones", "0 1", () -> pair(0, 1, true, true, false, false));
        due("1 behind 2", "0 1", () -> pair(1, 2, true, true, false, false));
        due("a lesser nearness is later", "0 1", () -> pair(1, 1, false, false, true, false));
        due("also for important ones", "0 1", () -> pair(1, 1, true, true, true, false));
        due("the weight", "0 1", () -> pair(1, 1, false, false, false, true));
        due("also for important ones", "0 1", () -> pair(1, 1, true, true, false, true));
        due("the number of the rule", "1 0", () -> pair(1, 1, false, false, false, false));
        due("also for important ones", "1 0", () -> pair(1, 1, true, true, false, false));
        layersAheadOfNearness();
        placesInTheRule();
    }

    /** Two rules for the root; the first one can be scoped or heavier. */
    private static String pair(int one, int other, boolean isFirst, boolean isSecond, boolean isNear,
            boolean isHeavy) {
        Cascadum x = new Cascadum();
        x.setClasses(0, 1);
        int light = x.selector(x.compound(-1, 0, 0, false));
        int heavy = x.selector(x.compound(0, 1, 0, false));
        n(x, 1);
        x.addRule(one, -1, isHeavy ? heavy : light);
        x.addRule(other, -1, light);
        x.setScope(0, isNear ? 0 : -1);
        x.declare(0, 0, 0, isFirst);
        x.declare(1, 0, 0, isSecond);
        x.refresh();
        return row(x, 0, 0);
    }

    private static void layersAheadOfNearness() {
        Cascadum x = new Cascadum();
        x.setClasses(0, 1);
        int light = x.selector(x.compound(-1, 0, 0, false));
        int heavy = x.selector(x.compound(0, 1, 0, false));
        n(x, 1);
        x.addLayer(2, -1);
        x.addLayer(2, -1);
        x.addRule(2, 1, light);
        x.addRule(2, 0, heavy);
        x.setScope(1, 0);
        x.declare(0, 0, 0, false);
        x.declare(1, 0, 0, false);
        x.declare(0, 4, 0, true);
        x.declare(1, 4, 0, true);
        x.refresh();
        due("layers by rising numbers, ahead of the nearness", "0 1", () -> row(x, 0, 0));
        due("likewise the other way round", "1 0", () -> row(x, 0, 4));
    }

    private static void placesInTheRule() {
        Cascadum x = three();
        for (int i = 0; i < 6; i++) {
            x.declare(0, 0, n(x, i), i < 3);
        }
        x.refresh();
        for (int left = 5; left >= 0; left--) {
            int want = left >= 3 ? 2 : left;
            number("the last important one, or the last one: " + left, want, x, 0, 0);
            x.dropDeclaration(0, left);
            x.refresh();
        }
        number("what is at first", 0, x, 0, 0);
    }

    // ---- properties

    private static void atFirst() {
        Cascadum x = three();
        x.refresh();
        for (int element = 0; element < 3; element++) {
            number("0 colour, 0 at first", 0, x, element, 0);
            number("1 font, 16 at first", 16, x, element, 1);
            none("2 width, auto at first", x, element, 2);
            number("3 margin, 0 at first", 0, x, element, 3);
            number("4 line, 1 at first", 1, x, element, 4);
            for (int property = 5; property <= 7; property++) {
                none("own ones, not there at first: " + property, x, element, property);
            }
            none("8 reset, none at first", x, element, 8);
            none("9 step, none at first", x, element, 9);
        }
        boolean[] isInherited = {true, true, false, false, true, true, true, true, false, false};
        for (int property : ALL) {
            Cascadum y = three();
            give(y, 0, property, n(y, 77));
            y.refresh();
            number("declared at the root: " + property, 77, y, 0, property);
            if (isInherited[property]) {
                number("inherited: " + property, 77, y, 2, property);
            } else if (property == 3) {
                number("not inherited, what it is at first everywhere", 0, y, 1, property);
            } else {
                none("not inherited, none everywhere: " + property, y, 1, property);
            }
        }
    }

    // ---- hundredths

    private static void hundredthsOfTheFont() {
        Cascadum x = three();
        give(x, 0, 1, e(x, 50));
        give(x, 1, 1, e(x, 200));
        give(x, 0, 0, e(x, 100));
        give(x, 1, 0, e(x, 100));
        give(x, 2, 0, e(x, 50));
        give(x, 2, 1, percent(x, 25));
        x.refresh();
        number("for the font itself, of 16 at the root", 8, x, 0, 1);
        number("for the font itself, of that of the parent", 16, x, 1, 1);
        number("for another one, of the font", 8, x, 0, 0);
        number("for another one, of the font, not of that of the parent", 16, x, 1, 0);
        number("for the property 1, '%' is as 'e'", 4, x, 2, 1);
        number("of this font", 2, x, 2, 0);
        Cascadum y = three();
        give(y, 0, 1, percent(y, 100));
        give(y, 1, 1, e(y, 0));
        give(y, 1, 3, e(y, 9999));
        y.refresh();
        number("at the root '%' is of 16, too", 16, y, 0, 1);
        number("a font of 0", 0, y, 1, 1);
        number("of which all is 0", 0, y, 1, 3);
    }

    private static void hundredthsAreCut() {
        int[] hundredths = {0, 1, 6, 7, 12, 13, 99, 100, 101, 106, 107};
        int[] ofSixteen = {0, 0, 0, 1, 1, 2, 15, 16, 16, 16, 17};
        for (int i = 0; i < hundredths.length; i++) {
            Cascadum x = three();
            give(x, 0, 3, e(x, hundredths[i]));
            give(x, 1, 3, e(x, -hundredths[i]));
            give(x, 2, 1, e(x, -100));
            give(x, 2, 0, e(x, hundredths[i]));
            give(x, 2, 4, e(x, -hundredths[i]));
            x.refresh();
            number("cut towards 0: " + hundredths[i], ofSixteen[i], x, 0, 3);
            number("cut towards 0: -" + hundredths[i], -ofSixteen[i], x, 1, 3);
            number("of -16, cut towards 0: " + hundredths[i], -ofSixteen[i], x, 2, 0);
            number("of -16, cut towards 0: -" + hundredths[i], ofSixteen[i], x, 2, 4);
        }
    }

    private static void hundredthsOfTheWidth() {
        int[] windows = {0, 1, 99, 100, 199, 5000};
        int[] halves = {0, 0, 49, 50, 99, 2500};
        for (int i = 0; i < windows.length; i++) {
            Cascadum x = three();
            give(x, 0, 2, percent(x, 50));
            give(x, 1, 3, percent(x, 50));
            give(x, 2, 3, percent(x, -50));
            x.setWindow(windows[i]);
            x.refresh();
            number("of the window at the root: " + windows[i], halves[i], x, 0, 2);
            number("of the width of the parent: " + windows[i], halves[i] / 2, x, 1, 3);
            int width = Math.max(0, halves[i] - halves[i] / 2 * 2);
            due("which is less: " + windows[i], width, () -> x.width(1));
            number("below 0, cut towards 0: " + windows[i], -(width / 2), x, 2, 3);
        }
        Cascadum x = three();
        give(x, 0, 2, n(x, -100));
        give(x, 1, 2, percent(x, 100));
        give(x, 1, 3, percent(x, 9999));
        x.refresh();
        number("of a width of 0, not of the number below 0", 0, x, 1, 2);
        number("for the margin, too", 0, x, 1, 3);
    }

    private static void percentCannotBe() {
        for (int property : ALL) {
            Cascadum x = three();
            give(x, 0, property, n(x, 12));
            give(x, 1, property, percent(x, 50));
            give(x, 2, property, percent(x, 0));
            x.setWindow(200);
            x.refresh();
            boolean isWidth = property == 2 || property == 3;
            if (isWidth) {
                number("of a width: " + property, property == 2 ? 6 : 88, x, 1, property);
                number("0 of it: " + property, 0, x, 2, property);
            } else if (property == 1) {
                number("as 'e'", 6, x, 1, 1);
                number("0 of it", 0, x, 2, 1);
            } else if (property < 8) {
                number("it cannot be, so 'u' is 'i': " + property, 12, x, 1, property);
                number("though it would be 0: " + property, 12, x, 2, property);
            } else {
                none("it cannot be, so 'u' is 'o': " + property, x, 1, property);
                none("though it would be 0: " + property, x, 2, property);
            }
        }
    }

    private static void percentInPart() {
        for (int property : new int[] {0, 4, 6, 8, 9}) {
            for (int shape = 0; shape < 5; shape++) {
                Cascadum x = three();
                int half = percent(x, 50);
                int one = n(x, 1);
                int part = switch (shape) {
                    case 0 -> sum(x, half, one);
                    case 1 -> sum(x, one, half);
                    case 2 -> own(x, 5, half);
                    case 3 -> sum(x, one, own(x, 5, sum(x, one, half)));
                    default -> own(x, 7, own(x, 5, half));
                };
                give(x, 0, 5, one);
                give(x, 0, property, n(x, 12));
                give(x, 1, property, part);
                x.refresh();
                if (property < 8) {
                    number("in part it cannot be: " + property + ", " + shape, 12, x, 1, property);
                } else {
                    none("in part it cannot be: " + property + ", " + shape, x, 1, property);
                }
            }
        }
        Cascadum x = three();
        int half = percent(x, 50);
        give(x, 0, 5, n(x, 1));
        give(x, 1, 2, sum(x, half, n(x, 1)));
        give(x, 1, 3, own(x, 6, half));
        give(x, 1, 1, sum(x, half, own(x, 5, half)));
        x.refresh();
        number("of a width in part", 501, x, 1, 2);
        number("of a width as another value", 500, x, 1, 3);
        number("of a font in part", 9, x, 1, 1);
    }

    // ---- what is held

    private static void sumsByThemselves() {
        Cascadum x = three();
        int third = e(x, 33);
        give(x, 0, 0, sum(x, third, third));
        give(x, 0, 4, e(x, 66));
        give(x, 1, 0, sum(x, third, e(x, -66)));
        give(x, 1, 3, sum(x, n(x, 0), n(x, 0)));
        x.refresh();
        number("each of both is reckoned by itself: 5 and 5", 10, x, 0, 0);
        number("not together", 10, x, 0, 4);
        number("5 and -10", -5, x, 1, 0);
        number("nothing and nothing", 0, x, 1, 3);
        Cascadum y = three();
        give(y, 0, 1, n(y, 19));
        give(y, 0, 0, sum(y, e(y, 50), e(y, 50)));
        y.refresh();
        number("9 and 9, not 19", 18, y, 0, 0);
    }

    /** A font of some number above what 'n' can tell. */
    private static Cascadum withFont(int number) {
        Cascadum x = three();
        int half = number / 2;
        give(x, 0, 1, sum(x, n(x, half), n(x, number - half)));
        return x;
    }

    private static void fontsAreHeld() {
        Cascadum x = three();
        give(x, 0, 1, n(x, 9999));
        give(x, 1, 1, e(x, 9999));
        give(x, 2, 1, e(x, 101));
        x.refresh();
        number("9999 hundredths of 9999", 999800, x, 1, 1);
        number("more than 999999", HELD, x, 2, 1);
        Cascadum y = three();
        give(y, 0, 1, n(y, 9999));
        give(y, 1, 1, e(y, 9999));
        give(y, 2, 1, e(y, -101));
        y.refresh();
        number("less than -999999", -HELD, y, 2, 1);
    }

    private static void fontHundredthsAreHeld() {
        int[] fonts = {10000, 10001, 10002, 19998};
        int[] want = {999900, HELD, HELD, HELD};
        for (int i = 0; i < fonts.length; i++) {
            Cascadum x = withFont(fonts[i]);
            give(x, 1, 0, e(x, 9999));
            give(x, 1, 4, e(x, -9999));
            give(x, 2, 0, sum(x, e(x, 9999), n(x, -1)));
            give(x, 2, 4, sum(x, n(x, 1), e(x, -9999)));
            x.refresh();
            number("'e' of " + fonts[i], want[i], x, 1, 0);
            number("'e' of " + fonts[i] + ", below 0", -want[i], x, 1, 4);
            number("'e' as a part, of " + fonts[i], want[i] - 1, x, 2, 0);
            number("'e' as a part, of " + fonts[i] + ", below 0", 1 - want[i], x, 2, 4);
        }
    }

    private static void widthHundredthsAreHeld() {
        int[] widths = {10000, 10001, 10002, 19998};
        int[] want = {999900, HELD, HELD, HELD};
        for (int i = 0; i < widths.length; i++) {
            Cascadum x = three();
            int half = widths[i] / 2;
            int width = sum(x, n(x, half), n(x, widths[i] - half));
            give(x, 0, 2, width);
            give(x, 1, 2, width);
            give(x, 1, 3, percent(x, 9999));
            give(x, 2, 3, sum(x, percent(x, -9999), n(x, 1)));
            give(x, 2, 2, percent(x, 9999));
            x.refresh();
            number("'%' of " + widths[i], want[i], x, 1, 3);
            number("'%' as a part, of " + widths[i] + ", below 0", 1 - want[i], x, 2, 3);
            due("the width is held, too: " + widths[i], want[i], () -> x.width(2));
        }
    }

    private static void sumsAreHeld() {
        int[] more = {198, 199, 200, 9999};
        int[] want = {999998, HELD, HELD, HELD};
        for (int i = 0; i < more.length; i++) {
            Cascadum x = withFont(9999);
            int high = sum(x, e(x, 9999), n(x, more[i]));
            int low = sum(x, n(x, -more[i]), e(x, -9999));
            give(x, 1, 0, high);
            give(x, 1, 4, low);
            give(x, 1, 3, sum(x, high, n(x, -1)));
            give(x, 1, 8, sum(x, n(x, 1), low));
            give(x, 1, 9, sum(x, high, high));
            give(x, 1, 7, sum(x, low, low));
            x.refresh();
            number("999800 and " + more[i], want[i], x, 1, 0);
            number("-999800 and -" + more[i], -want[i], x, 1, 4);
            number("each part is held: " + more[i], want[i] - 1, x, 1, 3);
            number("each part is held below 0: " + more[i], 1 - want[i], x, 1, 8);
            number("twice as much: " + more[i], HELD, x, 1, 9);
            number("twice as much below 0: " + more[i], -HELD, x, 1, 7);
        }
    }

    // ---- own properties

    private static void ownValues() {
        for (int property = 5; property <= 7; property++) {
            Cascadum x = three();
            give(x, 0, property, n(x, 30));
            give(x, 1, property, n(x, 31));
            give(x, 1, 0, own(x, property, -1));
            give(x, 2, 0, own(x, property, n(x, 1)));
            give(x, 0, 4, sum(x, own(x, property, -1), own(x, property, -1)));
            x.refresh();
            number("the value of an own property of this element: " + property, 31, x, 1, 0);
            number("which it may have inherited: " + property, 31, x, 2, 0);
            number("as both parts: " + property, 60, x, 0, 4);
        }
    }

    private static void otherValues() {
        Cascadum x = three();
        int seven = n(x, 7);
        give(x, 0, 0, own(x, 5, seven));
        give(x, 0, 4, own(x, 5, -1));
        give(x, 0, 3, own(x, 5, own(x, 6, own(x, 7, seven))));
        give(x, 1, 5, n(x, 0));
        give(x, 1, 0, own(x, 5, seven));
        give(x, 1, 3, own(x, 6, own(x, 5, seven)));
        give(x, 2, 5, bare(x, 'o'));
        give(x, 2, 0, own(x, 5, seven));
        give(x, 2, 6, own(x, 5, own(x, 7, -1)));
        x.refresh();
        number("if it is not there, another value", 7, x, 0, 0);
        number("if none is told, as if it was 'u'", 1, x, 0, 4);
        number("others in others", 7, x, 0, 3);
        number("0 is there", 0, x, 1, 0);
        number("the second one is there", 0, x, 1, 3);
        number("what is at first is not there", 7, x, 2, 0);
        none("nor is the other one's other one", x, 2, 6);
    }

    // ---- 'i', 'o', 'u', 'r', 'l'

    private static void inheritedAndAtFirst() {
        boolean[] isInherited = {true, true, false, false, true, true, true, true, false, false};
        int[] first = {0, 16, -1, 0, 1, -1, -1, -1, -1, -1};
        for (int property : ALL) {
            for (char kind : "iou".toCharArray()) {
                Cascadum x = three();
                give(x, 0, property, bare(x, kind));
                give(x, 1, property, n(x, 40));
                give(x, 2, property, bare(x, kind));
                x.refresh();
                boolean isParents = kind == 'i' || kind == 'u' && isInherited[property];
                String what = "'" + kind + "' of " + property;
                expectNumber(what + " at the root", first[property], x, 0, property);
                expectNumber(what, isParents ? 40 : first[property], x, 2, property);
            }
        }
    }

    /** -1 for none. */
    private static void expectNumber(String what, int want, Cascadum x, int element, int property) {
        if (want < 0) {
            none(what, x, element, property);
        } else {
            number(what, want, x, element, property);
        }
    }

    private static void turnedBackToNothing() {
        boolean[] isInherited = {true, true, false, false, true, true, true, true, false, false};
        int[] first = {0, 16, -1, 0, 1, -1, -1, -1, -1, -1};
        for (int property : ALL) {
            for (char kind : "rl".toCharArray()) {
                Cascadum x = three();
                give(x, 0, property, n(x, 40));
                give(x, 1, property, n(x, 41));
                give(x, 1, property, bare(x, kind));
                give(x, 2, property, bare(x, kind));
                x.refresh();
                String what = "'" + kind + "' of " + property + " with nothing left to win is 'u'";
                expectNumber(what, isInherited[property] ? 40 : first[property], x, 1, property);
                expectNumber(what + " again", isInherited[property] ? 40 : first[property], x, 2, property);
                due(what + ", the winner is the rule", 1, () -> x.winner(1, property));
            }
        }
        Cascadum x = three();
        give(x, 0, 0, bare(x, 'r'));
        give(x, 0, 1, bare(x, 'l'));
        x.refresh();
        number("at the root, too", 0, x, 0, 0);
        number("at the root, the font", 16, x, 0, 1);
    }

    private static void turnedBackByOrigin() {
        for (int origin = 0; origin < 3; origin++) {
            for (int other = 0; other < 3; other++) {
                Cascadum x = three();
                int from = x.addRule(origin, -1, 1);
                int to = x.addRule(other, -1, 1);
                x.declare(from, 0, bare(x, 'r'), true);
                x.declare(to, 0, n(x, 9), false);
                x.declare(from, 0, n(x, 8), false);
                x.refresh();
                number("'r' leaves out the same origin, important or not: " + origin + ", " + other,
                        origin == other ? 0 : 9, x, 1, 0);
            }
        }
    }

    private static void turnedBackByLayer() {
        for (int layer = -1; layer < 3; layer++) {
            for (int other = -1; other < 3; other++) {
                Cascadum x = three();
                x.addLayer(2, -1);
                x.addLayer(2, 0);
                x.addLayer(2, -1);
                int from = x.addRule(2, layer, 1);
                int to = x.addRule(2, other, 1);
                int agent = x.addRule(0, -1, 1);
                x.declare(from, 0, bare(x, 'l'), true);
                x.declare(from, 0, n(x, 8), false);
                x.declare(to, 0, n(x, 9), false);
                x.declare(agent, 0, n(x, 3), false);
                x.refresh();
                number("'l' leaves out the same layer, or no layer: " + layer + ", " + other,
                        layer == other ? 3 : 9, x, 1, 0);
            }
        }
        Cascadum x = three();
        int user = x.addRule(1, -1, 1);
        give(x, 1, 0, bare(x, 'l'));
        give(x, user, 0, n(x, 5));
        x.refresh();
        number("no layer of this origin, not of another one", 5, x, 1, 0);
    }

    /** What is in no layer of an origin is apart from each of the eight layers, and so is what 'r' leaves out. */
    private static void turnedBackAmongEightLayers() {
        for (int layer = 0; layer < 8; layer++) {
            for (int origin = 0; origin < 3; origin++) {
                Cascadum x = three();
                for (int i = 0; i < 8; i++) {
                    x.addLayer(origin, -1);
                }
                int free = x.addRule(origin, -1, 1);
                int in = x.addRule(origin, layer, 1);
                x.declare(free, 0, bare(x, 'l'), false);
                x.declare(in, 0, n(x, 9), false);
                int other = x.addRule((origin + 1) % 3, -1, 1);
                x.declare(other, 4, bare(x, 'r'), true);
                x.declare(in, 4, n(x, 8), false);
                x.declare(other, 3, bare(x, 'l'), true);
                x.declare(in, 3, n(x, 7), false);
                x.refresh();
                String what = "the layer " + layer + " of the origin " + origin;
                number("'l' of no layer leaves " + what, 9, x, 1, 0);
                number("'r' of another origin leaves " + what, 8, x, 1, 4);
                number("'l' of another origin leaves " + what, 7, x, 1, 3);
            }
        }
    }

    // ---- reckoning

    private static void inOneOrMoreSteps() {
        int[][] orders = {{5, 6, 7}, {5, 7, 6}, {6, 5, 7}, {6, 7, 5}, {7, 5, 6}, {7, 6, 5}};
        for (int[] order : orders) {
            Cascadum x = three();
            give(x, 0, order[0], own(x, order[1], -1));
            give(x, 0, order[1], own(x, order[2], -1));
            give(x, 0, order[2], n(x, 33));
            give(x, 1, order[0], sum(x, own(x, order[1], -1), own(x, order[2], -1)));
            give(x, 1, order[1], sum(x, own(x, order[2], -1), n(x, 1)));
            give(x, 1, order[2], e(x, 50));
            give(x, 2, order[0], own(x, order[1], n(x, 1)));
            give(x, 2, order[1], own(x, order[2], -1));
            give(x, 2, order[2], bare(x, 'o'));
            x.refresh();
            number("one leads to another, and this to a third: " + order[0], 33, x, 0, order[0]);
            number("one step: " + order[1], 33, x, 0, order[1]);
            number("by the font: " + order[0], 17, x, 1, order[0]);
            number("by the font: " + order[1], 9, x, 1, order[1]);
            none("the third is not there, nor is what asks for it: " + order[1], x, 2, order[1]);
            number("but this has another value: " + order[0], 1, x, 2, order[0]);
        }
    }

    private static void twelveParts() {
        Cascadum x = three();
        int deep = n(x, 77);
        for (int i = 0; i < 11; i++) {
            deep = own(x, 5 + i % 3, deep);
        }
        give(x, 0, 0, deep);
        refused("13 parts", IMPOSSIBLE, () -> own(x, 5, 11));
        int one = n(x, 1);
        int left = one;
        int right = one;
        for (int i = 0; i < 5; i++) {
            left = sum(x, left, one);
            right = sum(x, one, right);
        }
        give(x, 0, 3, own(x, 7, left));
        give(x, 0, 4, own(x, 7, right));
        x.refresh();
        number("the innermost of 12 parts", 77, x, 0, 0);
        number("six in 12 parts, to the left", 6, x, 0, 3);
        number("six in 12 parts, to the right", 6, x, 0, 4);
    }

    private static void rings() {
        int[][] rings = {{5}, {6}, {7}, {5, 6}, {6, 7}, {7, 5}, {5, 6, 7}, {7, 6, 5}};
        for (int[] ring : rings) {
            Cascadum x = three();
            for (int property = 5; property <= 7; property++) {
                give(x, 0, property, n(x, 20));
            }
            int other = n(x, 3);
            for (int i = 0; i < ring.length; i++) {
                int next = ring[(i + 1) % ring.length];
                give(x, 1, ring[i], i % 2 == 0 ? own(x, next, other) : sum(x, other, own(x, next, -1)));
            }
            x.refresh();
            for (int property : ring) {
                none("leads to itself in " + ring.length + " steps: " + property, x, 1, property);
                none("so that there is none to inherit: " + property, x, 2, property);
            }
            for (int property = 5; property <= 7; property++) {
                int one = property;
                boolean isIn = java.util.Arrays.stream(ring).anyMatch(in -> in == one);
                if (!isIn) {
                    number("beside the ring: " + property, 20, x, 1, property);
                }
            }
        }
    }

    private static void ringsByOtherValues() {
        Cascadum x = three();
        give(x, 0, 7, n(x, 20));
        give(x, 1, 5, own(x, 7, own(x, 6, -1)));
        give(x, 1, 6, sum(x, own(x, 7, own(x, 5, n(x, 1))), n(x, 1)));
        give(x, 2, 5, own(x, 7, own(x, 5, -1)));
        x.refresh();
        none("those of other values included", x, 1, 5);
        none("for all of these", x, 1, 6);
        none("to itself by an other value alone", x, 2, 5);
        number("the one that is there is not in it", 20, x, 1, 7);
    }

    private static void besideRings() {
        Cascadum x = three();
        int four = n(x, 4);
        give(x, 1, 5, own(x, 6, four));
        give(x, 1, 6, own(x, 6, four));
        give(x, 1, 7, own(x, 5, four));
        give(x, 2, 5, own(x, 6, -1));
        give(x, 2, 6, own(x, 7, four));
        give(x, 2, 7, own(x, 6, four));
        give(x, 2, 0, own(x, 5, four));
        x.refresh();
        number("it leads to a ring, but not to itself", 4, x, 1, 5);
        none("the ring of one", x, 1, 6);
        number("it leads to what leads to a ring", 4, x, 1, 7);
        none("a 'v' of one that is not there without another value", x, 2, 5);
        number("a 'v' of such a one with another value", 4, x, 2, 0);
        Cascadum y = three();
        give(y, 0, 5, n(y, 4));
        give(y, 1, 5, own(y, 6, n(y, 1)));
        give(y, 2, 6, own(y, 5, n(y, 1)));
        give(y, 2, 7, own(y, 6, -1));
        y.refresh();
        number("a ring is made by declared values, not by what is inherited", 1, y, 2, 6);
        number("likewise", 1, y, 2, 7);
    }

    private static void ownForTheFont() {
        Cascadum x = three();
        int nine = n(x, 9);
        give(x, 0, 5, n(x, 30));
        give(x, 0, 1, own(x, 5, nine));
        give(x, 1, 5, e(x, 100));
        give(x, 1, 1, own(x, 5, nine));
        give(x, 1, 0, own(x, 5, nine));
        give(x, 2, 6, own(x, 5, -1));
        give(x, 2, 1, own(x, 6, nine));
        x.refresh();
        number("an own property without 'e' is there for the font", 30, x, 0, 1);
        number("one with 'e' is not there for it", 9, x, 1, 1);
        number("but is there for others, by that font", 9, x, 1, 0);
        number("an inherited one is a number", 9, x, 2, 1);
        number("the number of the parent", 9, x, 2, 6);
        Cascadum y = three();
        give(y, 0, 5, e(y, 100));
        give(y, 0, 6, own(y, 5, -1));
        give(y, 0, 7, sum(y, own(y, 6, -1), n(y, 1)));
        give(y, 0, 1, own(y, 7, n(y, 10)));
        give(y, 1, 5, own(y, 6, e(y, 1)));
        give(y, 1, 1, own(y, 5, n(y, 12)));
        give(y, 2, 7, e(y, 0));
        give(y, 2, 1, sum(y, own(y, 7, -1), n(y, 1)));
        y.refresh();
        number("it leads to one that has, in two steps", 10, y, 0, 1);
        number("it is there all the same", 11, y, 0, 7);
        number("an 'e' in the other value", 12, y, 1, 1);
        number("which is not asked for", 10, y, 1, 5);
        number("nothing for the font: as if it was 'u'", 12, y, 2, 1);
    }

    private static void nothingGiven() {
        boolean[] isInherited = {true, true, false, false, true, true, true, true, false, false};
        int[] first = {0, 16, -1, 0, 1, -1, -1, -1, -1, -1};
        for (int property : ALL) {
            boolean isOwn = property >= 5 && property <= 7;
            int asked = property == 7 ? 6 : 7;
            Cascadum x = three();
            give(x, 0, property, n(x, 50));
            give(x, 1, property, own(x, asked, -1));
            give(x, 2, property, sum(x, n(x, 1), own(x, asked, -1)));
            x.refresh();
            String what = "a 'v' that gives nothing: " + property;
            int want = isOwn ? -1 : isInherited[property] ? 50 : first[property];
            expectNumber(what, want, x, 1, property);
            expectNumber(what + ", in part", want, x, 2, property);
        }
    }

    private static void inheritedAsNumbers() {
        Cascadum x = three();
        give(x, 0, 1, n(x, 20));
        give(x, 0, 5, e(x, 100));
        give(x, 0, 3, percent(x, 10));
        give(x, 1, 1, n(x, 10));
        give(x, 1, 3, bare(x, 'i'));
        give(x, 1, 2, bare(x, 'i'));
        give(x, 2, 2, n(x, 5));
        give(x, 2, 0, own(x, 5, -1));
        x.refresh();
        number("inherited values are those that the parent has as numbers", 20, x, 1, 5);
        number("also two steps down", 20, x, 2, 0);
        number("'i' is a number, not hundredths of another width", 100, x, 1, 3);
        none("auto is no number", x, 1, 2);
        due("so the width is what is left", 600, () -> x.width(1));
    }

    // ---- layout

    private static void layoutOfTheWindow() {
        Cascadum x = three();
        x.refresh();
        due("the window is 1000 at first", 1000, () -> x.width(0));
        due("auto, that of the parent", 1000, () -> x.width(2));
        for (int width : new int[] {0, 1, 4999, 5000}) {
            x.setWindow(width);
            x.refresh();
            due("of the window at the root: " + width, width, () -> x.width(0));
            due("and below it: " + width, width, () -> x.width(2));
            due("in all: " + width, 3L * width, x::widths);
        }
    }

    private static void layoutByMargins() {
        int[] margins = {0, 1, 499, 500, 501, 9999, -1, -9999};
        int[] want = {1000, 998, 2, 0, 0, 0, 1002, 20998};
        for (int i = 0; i < margins.length; i++) {
            Cascadum x = three();
            give(x, 0, 3, n(x, margins[i]));
            give(x, 2, 3, n(x, margins[i]));
            x.refresh();
            int width = want[i];
            due("less 2 times its margin, never below 0: " + margins[i], width, () -> x.width(0));
            due("the margin is not that of those below: " + margins[i], width, () -> x.width(1));
            due("of that of the parent: " + margins[i], Math.max(0, width - 2 * margins[i]), () -> x.width(2));
        }
    }

    private static void layoutByNumbers() {
        int[] widths = {0, 1, 9999, -1, -9999};
        for (int width : widths) {
            Cascadum x = three();
            give(x, 0, 2, n(x, width));
            give(x, 0, 3, n(x, 100));
            x.refresh();
            due("the number as it is, never below 0: " + width, Math.max(0, width), () -> x.width(0));
            number("which it is as a number: " + width, width, x, 0, 2);
            due("that of the parent: " + width, Math.max(0, width), () -> x.width(1));
        }
        Cascadum x = three();
        give(x, 0, 2, n(x, 300));
        give(x, 1, 2, bare(x, 'o'));
        give(x, 1, 3, n(x, 10));
        x.refresh();
        due("auto is not what the parent has", 280, () -> x.width(1));
    }
}
