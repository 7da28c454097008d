/** The ends of what "Terms" says of fields, kinds of rules, sequences, orders, conversions and checks. */
public final class TermBoundsTest {
    private static final int LEAST_INT = Integer.MIN_VALUE;
    private static final int MOST_INT = Integer.MAX_VALUE;

    private static final Due due = new Due();

    public static void main(String[] args) {
        fields();
        kinds();
        fitting();
        compositions();
        sequences();
        orders();
        cascades();
        checks();
        stages();
        due.end();
    }

    private static void fields() {
        fieldsOfItsClassAndAllAbove();
        atFirstZeroOrNone();
    }

    private static void kinds() {
        presentIsNotNone();
        leastIsAtLeast();
        mostIsAtMost();
        sizeIsAtLeastAndAtMost();
        noneIsOfAnySize();
        elementsAreNeverNone();
    }

    private static void fitting() {
        presentFits();
        leastAndMostFit();
        sizeFits();
        composedFitsWhatAllPartsFit();
        composedWithoutPartsFits();
        fitWithoutAValue();
    }

    private static void compositions() {
        compositionAsItIsWhenChecked();
        eachBrokenPartIsOne();
        singleIsOneAlone();
    }

    private static void sequences() {
        flatInPlace();
        longestFlatRow();
        emptySequenceInside();
        cyclicUponItself();
        cyclicUponOneThatIs();
        notCyclic();
    }

    private static void orders() {
        goodWithItselfJustOnce();
        goodWithoutDefault();
        ordersAreNotHandedOn();
        orderIsForDefaultAlone();
        orderNotGoodIsAVisit();
    }

    private static void cascades() {
        cascadedOnlyIfSaid();
        cascadeOfNoneOrEmpty();
        cascadeOfEachElement();
        conversionIsNoChain();
    }

    private static void checks() {
        checkedAlreadyIsNothing();
        checkedForAnotherGroupIsAVisit();
        checkedBeforeButNotOnTheWayIsAVisit();
    }

    private static void stages() {
        upToTheFirstStageWithAViolation();
        upToTheFirstStageThatLedToOne();
        failureInAStage();
        rulesOfTheClosureAlone();
        rulesOnFieldsThatItHasAlone();
    }

    /** Class c is under class c - 1, field c and object c are of class c. */
    private static void fieldsOfItsClassAndAllAbove() {
        due.about("an object has the fields of its class, of that class's parent, and so on");
        RuleGraph x = new RuleGraph();
        for (int c = 0; c < 6; c++) {
            x.type(c - 1);
            x.field(c, 0);
            x.object(c);
        }
        for (int o = 0; o < 6; o++) {
            for (int f = 0; f < 6; f++) {
                due.is("put(" + o + ", " + f + ", 1)", x.put(o, f, 1) ? 1 : 0, f <= o ? 1 : 0);
            }
        }
    }

    private static void atFirstZeroOrNone() {
        due.about("at first an INT is 0, the others are none");
        RuleGraph x = Graphs.fourFields();
        x.rule(0, false, 1, 1, 0, 1);
        for (int f = 1; f < 4; f++) {
            x.rule(f, false, 0, 0, 0, 1);
        }
        for (int o = 0; o < 10; o++) {
            due.is("validate(" + o + ", 0)", x.validate(o, 0), 4);
            due.violation(x, 0, "f0", o, 0, -1, 0, -1, 0);
            for (int f = 1; f < 4; f++) {
                due.violation(x, f, "f" + f, o, f, -1, f, -1, -1);
            }
            x.put(o, 0, 7);
            x.put(o, 1, 0);
            x.append(o, 2, 7);
            x.append(o, 3, 0);
            x.object(0);
        }
    }

    private static void presentIsNotNone() {
        due.about("PRESENT: is not none");
        RuleGraph x = Graphs.fourFields();
        for (int f = 1; f < 4; f++) {
            x.rule(f, false, 0, MOST_INT, LEAST_INT, 1);
            due.is("none", x.look(0, f, 0), 1);
        }
        x.put(0, 1, 0);
        x.clear(0, 2, false);
        x.clear(0, 3, false);
        for (int f = 1; f < 4; f++) {
            due.is("a link, or an empty list", x.look(0, f, 0), 0);
        }
    }

    /** Rules of field 0 in group 0 and of elements of field 2 in group 1. */
    private static RuleGraph asking(int kind, int a) {
        RuleGraph x = Graphs.fourFields();
        x.rule(0, false, kind, a, -a, 1);
        x.rule(2, true, kind, a, -a, 2);
        return x;
    }

    private static void value(RuleGraph x, int v, int wanted) {
        x.put(0, 0, v);
        x.clear(0, 2, false);
        x.append(0, 2, v);
        due.is("an INT of " + v, x.validate(0, 0), wanted);
        due.is("an element of " + v, x.validate(0, 1), wanted);
    }

    private static void leastIsAtLeast() {
        due.about("LEAST a: is at least a");
        int[] edges = {LEAST_INT + 1, -2, -1, 0, 1, 2, MOST_INT};
        for (int a : edges) {
            RuleGraph x = asking(1, a);
            value(x, a - 1, 1);
            value(x, a, 0);
            value(x, LEAST_INT, 1);
            value(x, MOST_INT, 0);
        }
        value(asking(1, LEAST_INT), LEAST_INT, 0);
        value(asking(1, LEAST_INT), MOST_INT, 0);
    }

    private static void mostIsAtMost() {
        due.about("MOST a: is at most a");
        int[] edges = {LEAST_INT, -2, -1, 0, 1, 2, MOST_INT - 1};
        for (int a : edges) {
            RuleGraph x = asking(2, a);
            value(x, a + 1, 1);
            value(x, a, 0);
            value(x, MOST_INT, 1);
            value(x, LEAST_INT, 0);
        }
        value(asking(2, MOST_INT), MOST_INT, 0);
        value(asking(2, MOST_INT), LEAST_INT, 0);
    }

    private static void sizeIsAtLeastAndAtMost() {
        due.about("SIZE a b: at least a and at most b elements");
        int[] edges = {LEAST_INT, -1, 0, 1, 2, 3, 4, MOST_INT};
        for (int a : edges) {
            for (int b : edges) {
                for (int f = 2; f < 4; f++) {
                    sizes(f, a, b);
                }
            }
        }
    }

    private static void sizes(int f, int a, int b) {
        RuleGraph x = Graphs.fourFields();
        x.rule(f, false, 3, a, b, 1);
        x.clear(0, f, false);
        for (int size = 0; size <= 3; size++) {
            String what = "size " + size + " of " + a + " to " + b;
            due.is(what, x.look(0, f, 0), size >= a && size <= b ? 0 : 1);
            x.append(0, f, 0);
        }
    }

    private static void noneIsOfAnySize() {
        due.about("SIZE a b: none is all right");
        int[][] rows = {{0, 0}, {1, 3}, {3, 3}, {4, 4}, {2, 1}, {MOST_INT, LEAST_INT}, {-1, -1}};
        for (int[] row : rows) {
            for (int f = 2; f < 4; f++) {
                RuleGraph x = Graphs.fourFields();
                x.rule(f, false, 3, row[0], row[1], 1);
                due.is("at first", x.look(0, f, 0), 0);
                x.append(0, f, 0);
                x.clear(0, f, true);
                due.is("cleared", x.look(0, f, 0), 0);
            }
        }
    }

    private static void elementsAreNeverNone() {
        due.about("elements of lists are never none");
        RuleGraph x = Graphs.fourFields();
        x.rule(3, true, 0, 0, 0, 1);
        due.is("none", x.validate(0, 0), 0);
        x.clear(0, 3, false);
        due.is("empty", x.validate(0, 0), 0);
        for (int i = 0; i < 3; i++) {
            x.append(0, 3, 0);
            due.is("elements", x.validate(0, 0), 0);
        }
    }

    /** By kind of field, 1 where the rule fits. */
    private static void fits(int kind, String onField, String onElements) {
        for (int f = 0; f < 4; f++) {
            fits(kind, f, false, onField.charAt(f) == '1');
            fits(kind, f, true, onElements.charAt(f) == '1');
        }
    }

    private static void fits(int kind, int f, boolean element, boolean wanted) {
        RuleGraph x = Graphs.fourFields();
        x.rule(f, element, kind, 0, 0, 1);
        String what = (element ? "elements of kind " : "kind ") + f;
        due.is(what, x.validate(0, 0) == -4 ? 0 : 1, wanted ? 1 : 0);
        due.is(what + " looked at", x.look(0, f, 0) == -4 ? 0 : 1, wanted ? 1 : 0);
        if (!wanted) {
            due.is("found()", x.found(), 0);
        }
    }

    private static void presentFits() {
        due.about("PRESENT fits a LINK, INTS or LINKS, and elements of LINKS");
        fits(0, "0111", "0001");
    }

    private static void leastAndMostFit() {
        due.about("LEAST fits an INT and elements of INTS");
        fits(1, "1000", "0010");
        due.about("MOST fits an INT and elements of INTS");
        fits(2, "1000", "0010");
    }

    private static void sizeFits() {
        due.about("SIZE fits INTS or LINKS");
        fits(3, "0011", "0000");
    }

    /** Whether kinds p and q, as parts of one composition, fit field f. */
    private static boolean bothFit(int p, int q, int f) {
        String[] onField = {"0111", "1000", "1000", "0011"};
        return onField[p].charAt(f) == '1' && onField[q].charAt(f) == '1';
    }

    private static void composedFitsWhatAllPartsFit() {
        due.about("COMPOSED fits what all its parts fit");
        for (int i = 0; i < 64; i++) {
            int p = i / 16;
            int q = i / 4 % 4;
            int f = i % 4;
            RuleGraph x = Graphs.fourFields();
            x.part(2, p, 0, 0);
            x.part(2, p, 0, 0);
            x.part(2, q, 0, 0);
            x.rule(f, false, 4, 2, 0, 1);
            String what = "parts " + p + " " + p + " " + q + " on " + f;
            due.is(what, x.validate(0, 0) == -4 ? 0 : 1, bothFit(p, q, f) ? 1 : 0);
            RuleGraph y = Graphs.fourFields();
            y.part(0, q, 0, 0);
            y.part(0, p, 0, 0);
            y.part(0, p, 0, 0);
            y.rule(f, false, 4, 0, 0, 1);
            due.is(what + ", turned", y.look(0, f, 0) == -4 ? 0 : 1, bothFit(p, q, f) ? 1 : 0);
        }
    }

    private static void composedWithoutPartsFits() {
        due.about("COMPOSED without parts has none that does not fit");
        for (int f = 0; f < 4; f++) {
            RuleGraph x = Graphs.fourFields();
            x.put(0, 0, MOST_INT);
            x.put(0, 1, 0);
            x.append(0, 2, 7);
            x.append(0, 3, 0);
            x.rule(f, false, 4, 0, 0, 1);
            x.rule(f, true, 4, 0, 0, 1);
            due.is("field " + f, x.validate(0, 0), 0);
            x.single(0, true);
            due.is("field " + f + ", single", x.look(0, f, 0), 0);
        }
    }

    private static void fitWithoutAValue() {
        due.about("FIT if the kind does not fit, whatever the value is");
        RuleGraph x = Graphs.fourFields();
        x.rule(2, true, 0, 0, 0, 1);
        due.is("elements of none", x.validate(0, 0), -4);
        x.clear(0, 2, false);
        due.is("elements of an empty list", x.validate(0, 0), -4);
        x.append(0, 2, 0);
        due.is("elements", x.validate(0, 0), -4);
        due.is("a group that it does not belong to", x.validate(0, 1), 0);
        x.type(-1);
        x.object(1);
        due.is("an object without the field", x.validate(1, 0), 0);
    }

    private static void compositionAsItIsWhenChecked() {
        due.about("a composition is looked at as it is when an object is checked");
        RuleGraph x = Graphs.fourFields();
        x.rule(0, false, 4, 1, 0, 1);
        due.is("without parts", x.validate(0, 0), 0);
        for (int p = 0; p < 3; p++) {
            x.part(1, 1, 5, 0);
            due.is("with " + (p + 1), x.validate(0, 0), p + 1);
        }
        x.single(1, true);
        due.is("single", x.validate(0, 0), 1);
        RuleGraph y = Graphs.fourFields();
        y.rule(0, false, 4, 1, 0, 1);
        y.part(1, 0, 0, 0);
        due.is("with a part that does not fit", y.validate(0, 0), -4);
    }

    /** Part p of composition 0 is broken by v if bit p of v is not set. */
    private static void bits(RuleGraph x, int v) {
        for (int p = 0; p < 3; p++) {
            x.part(0, 1, (v >> p & 1) == 0 ? 1 : 0, 0);
        }
        x.rule(0, false, 4, 0, 0, 1);
    }

    private static void eachBrokenPartIsOne() {
        due.about("for a composition each part that is broken is one, by number");
        for (int v = 0; v < 8; v++) {
            RuleGraph x = Graphs.fourFields();
            bits(x, v);
            due.is("validate(0, 0) of " + v, x.validate(0, 0), 3 - Integer.bitCount(v));
            int k = 0;
            for (int p = 0; p < 3; p++) {
                if ((v >> p & 1) == 0) {
                    due.violation(x, k, "f0", 0, 0, -1, 0, p, 0);
                    k++;
                }
            }
        }
    }

    private static void singleIsOneAlone() {
        due.about("one alone, of the rule itself, if the composition is single and some part is broken");
        for (int v = 0; v < 8; v++) {
            RuleGraph x = Graphs.fourFields();
            bits(x, v);
            x.single(0, true);
            due.is("validate(0, 0) of " + v, x.validate(0, 0), v == 7 ? 0 : 1);
            if (v != 7) {
                due.violation(x, 0, "f0", 0, 0, -1, 0, -1, 0);
            }
        }
    }

    /** One object and rules of groups 0 to 5: the int breaks those of groups above it. */
    private static RuleGraph groups(int[] six, int[] seven) {
        RuleGraph x = Graphs.fourFields();
        for (int g = 0; g < 6; g++) {
            x.rule(0, false, 1, g, 0, 1 << g);
        }
        for (int g : six) {
            due.yes("member(6, " + g + ")", x.member(6, g));
        }
        for (int g : seven) {
            due.yes("member(7, " + g + ")", x.member(7, g));
        }
        return x;
    }

    private static void flatInPlace() {
        due.about("FLAT: a member that is a group, in its place; for a sequence what that is flat");
        int[][] six = {{1, 2, 3, 4}, {7, 1}, {1, 7}, {2, 7, 1}, {7}};
        int[][] seven = {{}, {2, 3}, {2, 3}, {1, 3, 4, 5}, {5, 4, 3, 2}};
        int[][] flat = {{1, 2, 3, 4}, {2, 3, 1}, {1, 2, 3}, {2, 1, 3, 4, 5, 1}, {5, 4, 3, 2}};
        for (int i = 0; i < flat.length; i++) {
            RuleGraph x = groups(six[i], seven[i]);
            for (int v = 0; v < 6; v++) {
                x.put(0, 0, v);
                int visits = upToAbove(flat[i], v);
                boolean isBroken = flat[i][visits - 1] > v;
                due.is("row " + i + " at " + v, x.validate(0, 6), isBroken ? 1 : 0);
                due.is("visits()", x.visits(), visits);
                due.is("violation(0, 3)", x.violation(0, 3), isBroken ? flat[i][visits - 1] : -1);
            }
        }
    }

    /** How many groups of the row there are up to the first above v. */
    private static int upToAbove(int[] row, int v) {
        for (int i = 0; i < row.length; i++) {
            if (row[i] > v) {
                return i + 1;
            }
        }
        return row.length;
    }

    private static void longestFlatRow() {
        due.about("FLAT: four members of four");
        RuleGraph x = groups(new int[] {7, 7, 7, 7}, new int[] {1, 2, 3, 4});
        x.put(0, 0, 5);
        due.is("validate(0, 6)", x.validate(0, 6), 0);
        due.is("visits()", x.visits(), 16);
        due.is("validate(0, 7)", x.validate(0, 7), 0);
        due.is("visits()", x.visits(), 4);
        x = groups(new int[] {1, 2, 3, 4}, new int[] {6, 6, 6, 6});
        x.put(0, 0, 5);
        due.is("validate(0, 7)", x.validate(0, 7), 0);
        due.is("visits()", x.visits(), 16);
    }

    private static void emptySequenceInside() {
        due.about("FLAT: an empty sequence");
        RuleGraph x = groups(new int[] {7, 7}, new int[] {});
        due.is("validate(0, 6)", x.validate(0, 6), 0);
        due.is("visits()", x.visits(), 0);
        due.is("found()", x.found(), 0);
        x.member(6, 1);
        due.is("and a group", x.validate(0, 6), 1);
        due.is("visits()", x.visits(), 1);
    }

    private static void isCyclic(int[] six, int[] seven, boolean wantedOfSix, boolean wantedOfSeven) {
        RuleGraph x = groups(six, seven);
        boolean[] wanted = {wantedOfSix, wantedOfSeven};
        for (int s = 6; s < 8; s++) {
            x.validate(0, 1);
            int answer = x.validate(0, s);
            due.is("validate(0, " + s + ")", answer == -2 ? 1 : 0, wanted[s - 6] ? 1 : 0);
            if (wanted[s - 6]) {
                due.is("found()", x.found(), 0);
                due.is("visits()", x.visits(), 0);
                due.is("violation(0, 0)", x.violation(0, 0), -1);
            }
        }
    }

    private static void cyclicUponItself() {
        due.about("CYCLIC if it comes upon itself");
        isCyclic(new int[] {6}, new int[] {}, true, false);
        isCyclic(new int[] {}, new int[] {7}, false, true);
        isCyclic(new int[] {0, 1, 2, 6}, new int[] {0}, true, false);
        isCyclic(new int[] {0}, new int[] {0, 1, 2, 7}, false, true);
        isCyclic(new int[] {7}, new int[] {6}, true, true);
        isCyclic(new int[] {0, 7}, new int[] {1, 2, 3, 6}, true, true);
    }

    private static void cyclicUponOneThatIs() {
        due.about("CYCLIC if it comes upon one that is");
        isCyclic(new int[] {7}, new int[] {7}, true, true);
        isCyclic(new int[] {0, 1, 2, 7}, new int[] {0, 1, 2, 7}, true, true);
        isCyclic(new int[] {6}, new int[] {0, 6}, true, true);
    }

    private static void notCyclic() {
        due.about("not CYCLIC: one comes upon the other alone");
        isCyclic(new int[] {}, new int[] {}, false, false);
        isCyclic(new int[] {7, 7, 7, 7}, new int[] {0, 1, 2, 3}, false, false);
        isCyclic(new int[] {0, 0}, new int[] {6, 0, 6}, false, false);
    }

    private static void orderIs(int wanted, int... entries) {
        RuleGraph x = new RuleGraph();
        x.type(-1);
        x.object(0);
        StringBuilder row = new StringBuilder("order");
        for (int entry : entries) {
            x.order(0, entry);
            row.append(' ').append(entry);
        }
        due.is(row.toString(), x.validate(0, 0), wanted);
        due.is("found()", x.found(), 0);
    }

    private static void goodWithItselfJustOnce() {
        due.about("an order is GOOD if itself stands in it just once");
        orderIs(0, -1);
        orderIs(0, -1, 1, 2, 3);
        orderIs(0, 1, -1, 2, 3);
        orderIs(0, 1, 2, 3, -1);
        orderIs(-3, 1);
        orderIs(-3, 5, 4, 3, 2);
        orderIs(-3, -1, -1);
        orderIs(-3, -1, 1, 2, -1);
        orderIs(-3, -1, -1, -1, -1);
        orderIs(0, 1, 1, -1, 1);
    }

    private static void goodWithoutDefault() {
        due.about("an order is GOOD if DEFAULT does not stand in it");
        orderIs(-3, 0);
        orderIs(-3, 0, -1);
        orderIs(-3, -1, 0);
        orderIs(-3, -1, 1, 2, 0);
        orderIs(-3, 0, 0, -1, 1);
    }

    private static void ordersAreNotHandedOn() {
        due.about("orders are not handed on to other classes");
        RuleGraph x = new RuleGraph();
        x.type(-1);
        x.type(0);
        x.type(1);
        x.order(1, 2);
        for (int c = 0; c < 3; c++) {
            x.object(c);
            due.is("validate(" + c + ", 0)", x.validate(c, 0), c == 1 ? -3 : 0);
        }
    }

    private static void orderIsForDefaultAlone() {
        due.about("if g is DEFAULT and o's class has an order");
        RuleGraph x = new RuleGraph();
        x.type(-1);
        x.object(0);
        due.is("without an order", x.validate(0, 0), 0);
        x.order(0, 1);
        due.is("validate(0, 0)", x.validate(0, 0), -3);
        for (int g = 1; g < 6; g++) {
            due.is("validate(0, " + g + ")", x.validate(0, g), 0);
        }
        x.extend(1, 0);
        due.is("a closure with DEFAULT in it", x.validate(0, 1), 0);
    }

    private static void orderNotGoodIsAVisit() {
        due.about("ORDER is met after the visit");
        RuleGraph x = Graphs.net(1);
        x.type(0);
        x.object(1);
        x.put(0, 1, 1);
        x.order(1, 1);
        due.is("validate(0, 0)", x.validate(0, 0), -3);
        due.is("visits()", x.visits(), 2);
        due.is("found()", x.found(), 0);
    }

    private static void cascadedOnlyIfSaid() {
        due.about("a field that is not cascaded leads nowhere");
        RuleGraph x = Graphs.fourFields();
        x.object(0);
        x.put(0, 1, 1);
        x.append(0, 3, 1);
        x.convert(1, 0, 1);
        x.validate(0, 0);
        due.is("visits()", x.visits(), 1);
        x.cascade(3);
        x.validate(0, 0);
        due.is("visits() of LINKS", x.visits(), 2);
        x.cascade(1);
        x.validate(0, 0);
        due.is("visits() of both", x.visits(), 3);
    }

    private static void cascadeOfNoneOrEmpty() {
        due.about("what is none or empty leads to no object");
        RuleGraph x = Graphs.net(1);
        x.validate(0, 0);
        due.is("visits() of none", x.visits(), 1);
        x.clear(0, 0, false);
        x.validate(0, 0);
        due.is("visits() of empty", x.visits(), 1);
    }

    private static void cascadeOfEachElement() {
        due.about("each object that it leads to, in order");
        RuleGraph x = Graphs.net(4);
        x.put(0, 2, 1);
        int[] targets = {3, 1, 2};
        for (int i = 0; i < 3; i++) {
            x.append(0, 0, targets[i]);
            due.is("validate(0, 0)", x.validate(0, 0), i + 1);
            due.is("visits()", x.visits(), i + 2);
            for (int k = 0; k <= i; k++) {
                due.violation(x, k, "f0[" + k + "].f2", targets[k], 2, -1, 0, -1, 0);
            }
        }
    }

    private static void conversionIsNoChain() {
        due.about("group from becomes group to, and no other");
        RuleGraph x = Graphs.net(3);
        for (int g = 0; g < 5; g++) {
            x.convert(1, g, g + 1);
        }
        x.put(0, 1, 1);
        x.put(1, 1, 2);
        for (int g = 0; g < 4; g++) {
            due.is("validate(0, " + g + ")", x.validate(0, g), 3);
            for (int k = 0; k < 3; k++) {
                due.violation(x, k, "f1.".repeat(k) + "f2", k, 2, -1, g + k, -1, 0);
            }
        }
    }

    private static void checkedAlreadyIsNothing() {
        due.about("if o is being checked for g already, nothing is done");
        RuleGraph x = Graphs.net(3);
        x.put(0, 1, 0);
        due.is("a link to itself", x.validate(0, 0), 1);
        due.is("visits()", x.visits(), 1);
        x.put(0, 1, 1);
        x.put(1, 1, 2);
        x.put(2, 1, 0);
        due.is("a ring of three", x.validate(0, 0), 3);
        due.is("visits()", x.visits(), 3);
        due.is("from another on", x.validate(2, 5), 3);
        due.is("visits()", x.visits(), 3);
    }

    private static void checkedForAnotherGroupIsAVisit() {
        due.about("an object that is being checked for another group is a visit");
        RuleGraph x = Graphs.net(1);
        x.put(0, 1, 0);
        x.convert(1, 0, 1);
        due.is("for 0, then for 1", x.validate(0, 0), 2);
        due.is("visits()", x.visits(), 2);
        x.convert(1, 1, 2);
        x.convert(1, 2, 0);
        due.is("for 0, 1, 2", x.validate(0, 0), 3);
        due.is("visits()", x.visits(), 3);
        due.violation(x, 2, "f1.f1.f2", 0, 2, -1, 2, -1, 0);
    }

    private static void checkedBeforeButNotOnTheWayIsAVisit() {
        due.about("an object that was checked on another way is a visit");
        RuleGraph x = Graphs.net(2);
        x.put(0, 1, 1);
        Graphs.lead(x, 0, 1, 1, 1);
        due.is("validate(0, 0)", x.validate(0, 0), 5);
        due.is("visits()", x.visits(), 5);
    }

    /** Rule g asks that the int is above what the entry's place is; itself is DEFAULT. */
    private static void upToTheFirstStageWithAViolation() {
        due.about("up to the first stage in which a violation was found");
        int[] entries = {4, -1, 2, 5};
        RuleGraph x = Graphs.fourFields();
        for (int i = 0; i < 4; i++) {
            x.rule(0, false, 1, i + 1, 0, 1 << Math.max(entries[i], 0));
            x.order(0, entries[i]);
        }
        for (int v = 0; v < 5; v++) {
            x.put(0, 0, v);
            due.is("validate(0, 0) at " + v, x.validate(0, 0), v == 4 ? 0 : 1);
            due.is("violation(0, 3)", x.violation(0, 3), v == 4 ? -1 : v);
            due.is("visits()", x.visits(), 1);
        }
    }

    private static void upToTheFirstStageThatLedToOne() {
        due.about("a violation in what a stage led to ends the stages, one before it does not");
        RuleGraph x = Graphs.net(3);
        x.type(0);
        x.object(1);
        x.order(1, 1);
        x.order(1, -1);
        x.order(1, 2);
        Graphs.lead(x, 0, 1, 3);
        x.put(3, 1, 2);
        x.put(3, 2, 1);
        due.is("validate(0, 0)", x.validate(0, 0), 3);
        due.violation(x, 2, "f0[1].f1.f2", 2, 2, -1, 1, -1, 0);
        due.is("visits(): 0, 1, 3, and 2 for group 1", x.visits(), 4);
        x.put(2, 2, 1);
        due.is("validate(0, 0)", x.validate(0, 0), 2);
        due.is("visits(): 2 for groups 1, 0 and 2", x.visits(), 6);
    }

    private static void failureInAStage() {
        due.about("a failure is met in the stage where it stands, or not at all behind a violation");
        RuleGraph x = Graphs.fourFields();
        x.order(0, 1);
        x.order(0, -1);
        x.order(0, 2);
        x.rule(0, true, 1, 0, 0, 4);
        due.is("FIT in the last stage", x.validate(0, 0), -4);
        x.rule(0, false, 1, 1, 0, 1);
        due.is("behind a violation in the second", x.validate(0, 0), 1);
        x.rule(0, true, 1, 0, 0, 2);
        due.is("FIT in the first stage", x.validate(0, 0), -4);
        due.is("found()", x.found(), 0);
        due.is("visits()", x.visits(), 1);
    }

    private static void rulesOfTheClosureAlone() {
        due.about("rules which belong to a group of the closure of h");
        RuleGraph x = Graphs.net(1);
        x.rule(2, false, 1, 1, 0, 63);
        for (int g = 0; g < 6; g++) {
            due.is("validate(0, " + g + ")", x.validate(0, g), 2);
            due.is("violation(0, 3)", x.violation(0, 3), g);
            due.is("violation(1, 3)", x.violation(1, 3), 6);
        }
        x.extend(3, 4);
        due.is("what it extends", x.validate(0, 3), 3);
        due.is("what extends it", x.validate(0, 4), 2);
    }

    private static void rulesOnFieldsThatItHasAlone() {
        due.about("rules and cascades on fields that o has");
        RuleGraph x = new RuleGraph();
        for (int c = 0; c < 3; c++) {
            x.type(c == 1 ? 0 : -1);
            x.field(c, 1);
            x.cascade(c);
            x.rule(c, false, 0, 0, 0, 1);
            x.object(c);
        }
        int[] wanted = {1, 2, 1};
        for (int o = 0; o < 3; o++) {
            due.is("validate(" + o + ", 0)", x.validate(o, 0), wanted[o]);
            due.is("the last rule", x.violation(wanted[o] - 1, 3), o);
        }
    }
}
