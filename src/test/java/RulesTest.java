/** Promises 4 (rule), 5 (part), 6 (single), 7 (extend) and 8 (member). */
public final class RulesTest {
    private static final int LEAST_INT = Integer.MIN_VALUE;
    private static final int MOST_INT = Integer.MAX_VALUE;

    private static final Due due = new Due();

    public static void main(String[] args) {
        ruleCalls();
        whatFits();
        notFittingIsMetWithoutElements();
        whatBreaksInts();
        whatBreaksLists();
        groupsOfRules();
        partCalls();
        partsByNumber();
        emptyCompositionFitsAll();
        compositionsAreLookedAtAsTheyAre();
        singleCalls();
        extendCalls();
        closures();
        memberCalls();
        flatSequences();
        cyclicSequences();
        due.end();
    }

    private static void ruleCalls() {
        due.about("promise 4: rule");
        RuleGraph x = Graphs.fourFields();
        due.is("no such field", x.rule(4, false, 0, 0, 0, 1), -1);
        due.is("no such field", x.rule(-1, false, 0, 0, 0, 1), -1);
        due.is("kind -1", x.rule(0, false, -1, 0, 0, 1), -1);
        due.is("kind 5", x.rule(0, false, 5, 0, 0, 1), -1);
        due.is("composition -1", x.rule(0, false, 4, -1, 0, 1), -1);
        due.is("composition 3", x.rule(0, false, 4, 3, 0, 1), -1);
        due.is("groups 0", x.rule(0, false, 0, 0, 0, 0), -1);
        due.is("groups 64", x.rule(0, false, 0, 0, 0, 64), -1);
        due.is("groups -1", x.rule(0, false, 0, 0, 0, -1), -1);
        due.is("groups least", x.rule(0, false, 0, 0, 0, LEAST_INT), -1);
        due.is("groups 1", x.rule(0, false, 1, LEAST_INT, 0, 1), 0);
        due.is("groups 63", x.rule(0, false, 2, MOST_INT, 0, 63), 1);
        for (int r = 2; r < 24; r++) {
            due.is("rule", x.rule(0, false, 4, r % 3, 0, 1), r);
        }
        due.is("the twenty-fifth", x.rule(0, false, 1, 0, 0, 1), -1);
        due.is("validate(0, 0)", x.validate(0, 0), 0);
    }

    private static void whatFits() {
        due.about("what fits");
        // by kind of rule and of field
        String[] onField = {"0111", "1000", "1000", "0011"};
        String[] onElement = {"0001", "0010", "0010", "0000"};
        for (int kind = 0; kind < 4; kind++) {
            for (int f = 0; f < 4; f++) {
                fits(kind, f, false, onField[kind].charAt(f) == '1');
                fits(kind, f, true, onElement[kind].charAt(f) == '1');
            }
        }
    }

    private static void fits(int kind, int f, boolean element, boolean wanted) {
        String call = "kind " + kind + " on " + f + (element ? " by element" : "");
        RuleGraph x = Graphs.fourFields();
        x.rule(f, element, kind, 0, 0, 1);
        due.is(call, x.validate(0, 0) == -4 ? 0 : 1, wanted ? 1 : 0);
        due.is(call + " looked at", x.look(0, f, 0) == -4 ? 0 : 1, wanted ? 1 : 0);
        RuleGraph y = Graphs.fourFields();
        y.part(1, kind, 0, 0);
        y.rule(f, element, 4, 1, 0, 1);
        due.is(call + " as a part", y.validate(0, 0) == -4 ? 0 : 1, wanted ? 1 : 0);
    }

    private static void notFittingIsMetWithoutElements() {
        due.about("FIT");
        RuleGraph x = Graphs.fourFields();
        x.rule(2, true, 0, 0, 0, 2);
        due.is("of another group", x.validate(0, 0), 0);
        due.is("of a list that is none", x.validate(0, 1), -4);
        x.clear(0, 2, false);
        due.is("of an empty list", x.validate(0, 1), -4);
        x.type(-1);
        x.object(1);
        due.is("on a field that it has not", x.validate(1, 1), 0);
    }

    private static void whatBreaksInts() {
        due.about("LEAST and MOST");
        RuleGraph x = Graphs.fourFields();
        x.rule(0, false, 1, -2, 99, 1);
        x.rule(0, false, 2, 4, -99, 1);
        int[] values = {-3, -2, -1, 4, 5, LEAST_INT, MOST_INT};
        int[] broken = {0, -1, -1, -1, 1, 0, 1};
        for (int i = 0; i < values.length; i++) {
            x.put(0, 0, values[i]);
            due.is("validate at " + values[i], x.validate(0, 0), broken[i] < 0 ? 0 : 1);
            if (broken[i] >= 0) {
                due.violation(x, 0, "f0", 0, 0, -1, broken[i], -1, values[i]);
            }
        }
        x.rule(2, true, 1, -2, 0, 2);
        x.append(0, 2, -3);
        x.append(0, 2, -1);
        x.append(0, 2, LEAST_INT);
        due.is("validate of elements", x.validate(0, 1), 2);
        due.violation(x, 0, "f2[0]", 0, 2, 0, 2, -1, -3);
        due.violation(x, 1, "f2[2]", 0, 2, 2, 2, -1, LEAST_INT);
    }

    private static void whatBreaksLists() {
        due.about("PRESENT and SIZE");
        RuleGraph x = Graphs.fourFields();
        for (int f = 1; f < 4; f++) {
            x.rule(f, false, 0, 0, 0, 1);
        }
        x.rule(3, true, 0, 0, 0, 1);
        x.rule(2, false, 3, 1, 2, 2);
        x.rule(3, false, 3, 1, 2, 2);
        due.is("all none", x.validate(0, 0), 3);
        due.is("none is of any size", x.validate(0, 1), 0);
        x.put(0, 1, 0);
        x.clear(0, 2, false);
        x.clear(0, 3, false);
        due.is("all there", x.validate(0, 0), 0);
        due.is("too small", x.validate(0, 1), 2);
        due.violation(x, 0, "f2", 0, 2, -1, 4, -1, 0);
        due.violation(x, 1, "f3", 0, 3, -1, 5, -1, 0);
        for (int size = 1; size <= 3; size++) {
            x.append(0, 2, -1);
            x.append(0, 3, 0);
            due.is("elements are never none", x.validate(0, 0), 0);
            due.is("size " + size, x.validate(0, 1), size < 3 ? 0 : 2);
        }
        due.violation(x, 0, "f2", 0, 2, -1, 4, -1, 3);
        due.violation(x, 1, "f3", 0, 3, -1, 5, -1, 3);
    }

    private static void groupsOfRules() {
        due.about("groups of rules");
        RuleGraph x = Graphs.fourFields();
        x.rule(0, false, 1, 1, 0, 1 + 4);
        x.rule(0, false, 1, 1, 0, 32);
        int[] wanted = {1, 0, 1, 0, 0, 1};
        for (int g = 0; g < 6; g++) {
            due.is("validate(0, " + g + ")", x.validate(0, g), wanted[g]);
        }
        due.is("violation(0, 3)", x.violation(0, 3), 1);
        x.extend(2, 0);
        due.is("once, though of two groups of the closure", x.validate(0, 2), 1);
    }

    private static void partCalls() {
        due.about("promise 5: part");
        RuleGraph x = new RuleGraph();
        due.no("part(-1, 0, 0, 0)", x.part(-1, 0, 0, 0));
        due.no("part(3, 0, 0, 0)", x.part(3, 0, 0, 0));
        due.no("part(0, -1, 0, 0)", x.part(0, -1, 0, 0));
        due.no("part(0, 4, 0, 0)", x.part(0, 4, 0, 0));
        for (int c = 0; c < 3; c++) {
            for (int kind = 0; kind < 3; kind++) {
                due.yes("part " + kind, x.part(c, kind + c % 2, 0, 0));
            }
            due.no("the fourth", x.part(c, 0, 0, 0));
        }
    }

    private static void partsByNumber() {
        due.about("promise 5: parts by number");
        RuleGraph x = Graphs.fourFields();
        x.part(2, 2, 3, 0);
        x.part(2, 1, 9, 0);
        x.part(2, 2, 5, 0);
        x.rule(2, true, 4, 2, 0, 1);
        x.append(0, 2, 4);
        x.append(0, 2, 12);
        x.append(0, 2, 6);
        due.is("validate(0, 0)", x.validate(0, 0), 7);
        int[][] wanted = {{0, 0, 4}, {0, 1, 4}, {1, 0, 12}, {1, 2, 12}, {2, 0, 6}, {2, 1, 6}, {2, 2, 6}};
        for (int k = 0; k < 7; k++) {
            int[] w = wanted[k];
            due.violation(x, k, "f2[" + w[0] + "]", 0, 2, w[0], 0, w[1], w[2]);
        }
        x.rule(2, false, 4, 2, 0, 2);
        due.is("parts that do not fit", x.validate(0, 1), -4);
        x.part(0, 0, 0, 0);
        x.part(0, 1, 0, 0);
        x.rule(2, false, 4, 0, 0, 4);
        due.is("one part that does not fit", x.validate(0, 2), -4);
    }

    private static void emptyCompositionFitsAll() {
        due.about("a composition without parts");
        RuleGraph x = Graphs.fourFields();
        x.put(0, 0, MOST_INT);
        x.put(0, 1, 0);
        for (int f = 0; f < 4; f++) {
            x.rule(f, false, 4, 0, 0, 1);
            x.rule(f, true, 4, 0, 0, 1);
        }
        x.append(0, 2, 7);
        due.is("validate(0, 0)", x.validate(0, 0), 0);
        x.single(0, true);
        due.is("validate(0, 0) when single", x.validate(0, 0), 0);
    }

    private static void compositionsAreLookedAtAsTheyAre() {
        due.about("compositions change");
        RuleGraph x = Graphs.fourFields();
        x.rule(0, false, 4, 1, 0, 1);
        due.is("without parts", x.validate(0, 0), 0);
        x.part(1, 1, 5, 0);
        due.is("with one", x.validate(0, 0), 1);
        x.part(1, 1, 6, 0);
        due.is("with two", x.validate(0, 0), 2);
        x.part(1, 3, 0, 0);
        due.is("with one that does not fit", x.validate(0, 0), -4);
    }

    private static void singleCalls() {
        due.about("promise 6: single");
        RuleGraph x = Graphs.fourFields();
        due.no("single(-1, true)", x.single(-1, true));
        due.no("single(3, false)", x.single(3, false));
        x.part(0, 1, 2, 0);
        x.part(0, 1, 1, 0);
        x.part(0, 2, -1, 0);
        x.rule(2, true, 4, 0, 0, 1);
        x.append(0, 2, 0);
        x.append(0, 2, 1);
        due.is("not single", x.validate(0, 0), 5);
        due.yes("single(0, true)", x.single(0, true));
        due.yes("single(1, true)", x.single(1, true));
        due.is("single", x.validate(0, 0), 2);
        due.violation(x, 0, "f2[0]", 0, 2, 0, 0, -1, 0);
        due.violation(x, 1, "f2[1]", 0, 2, 1, 0, -1, 1);
        due.yes("single(0, false)", x.single(0, false));
        due.is("not single again", x.validate(0, 0), 5);
        due.violation(x, 4, "f2[1]", 0, 2, 1, 0, 2, 1);
    }

    private static void extendCalls() {
        due.about("promise 7: extend");
        RuleGraph x = new RuleGraph();
        due.no("extend(-1, 0)", x.extend(-1, 0));
        due.no("extend(0, -1)", x.extend(0, -1));
        due.no("extend(6, 0)", x.extend(6, 0));
        due.no("extend(0, 6)", x.extend(0, 6));
        due.no("extend(2, 2)", x.extend(2, 2));
        due.yes("extend(2, 3)", x.extend(2, 3));
        due.yes("extend(2, 3) again", x.extend(2, 3));
        due.no("extend(3, 2)", x.extend(3, 2));
        due.yes("extend(4, 5)", x.extend(4, 5));
        due.yes("extend(3, 4)", x.extend(3, 4));
        due.no("extend(5, 2)", x.extend(5, 2));
        due.yes("extend(0, 5)", x.extend(0, 5));
        due.yes("extend(2, 5)", x.extend(2, 5));
        due.yes("extend(0, 2)", x.extend(0, 2));
    }

    private static void closures() {
        due.about("promise 7: closures");
        RuleGraph x = Graphs.fourFields();
        for (int g = 0; g < 6; g++) {
            x.rule(0, false, 1, 1, 0, 1 << g);
        }
        x.extend(2, 3);
        x.extend(4, 5);
        x.extend(3, 4);
        x.extend(5, 2);
        x.extend(0, 3);
        x.extend(0, 1);
        int[] wanted = {5, 1, 4, 3, 2, 1};
        for (int g = 0; g < 6; g++) {
            due.is("validate(0, " + g + ")", x.validate(0, g), wanted[g]);
        }
        x.validate(0, 0);
        int[] rules = {0, 1, 3, 4, 5};
        for (int k = 0; k < 5; k++) {
            due.is("violation(" + k + ", 3)", x.violation(k, 3), rules[k]);
        }
    }

    private static void memberCalls() {
        due.about("promise 8: member");
        RuleGraph x = new RuleGraph();
        due.no("member(5, 0)", x.member(5, 0));
        due.no("member(8, 0)", x.member(8, 0));
        due.no("member(-1, 0)", x.member(-1, 0));
        due.no("member(6, -1)", x.member(6, -1));
        due.no("member(6, 8)", x.member(6, 8));
        due.yes("member(6, 0)", x.member(6, 0));
        due.yes("member(6, 5)", x.member(6, 5));
        due.yes("member(6, 6)", x.member(6, 6));
        due.yes("member(6, 7)", x.member(6, 7));
        due.no("the fifth", x.member(6, 0));
        due.yes("member(7, 0)", x.member(7, 0));
    }

    private static void flatSequences() {
        due.about("promise 8: flat");
        RuleGraph x = Graphs.fourFields();
        for (int g = 0; g < 6; g++) {
            x.rule(0, false, 1, g, 0, 1 << g);
        }
        int[] members = {1, 7, 4, 7};
        for (int g : members) {
            x.member(6, g);
        }
        x.member(7, 3);
        x.member(7, 2);
        int[] rules = {1, 3, 3, 4};
        int[] visits = {1, 2, 2, 4};
        for (int v = 0; v < 4; v++) {
            x.put(0, 0, v);
            due.is("validate(0, 6) at " + v, x.validate(0, 6), 1);
            due.is("violation(0, 3)", x.violation(0, 3), rules[v]);
            due.is("visits()", x.visits(), visits[v]);
        }
        x.put(0, 0, 4);
        due.is("validate(0, 6)", x.validate(0, 6), 0);
        due.is("visits() of 1 3 2 4 3 2", x.visits(), 6);
        due.is("validate(0, 7)", x.validate(0, 7), 0);
        due.is("visits() of 3 2", x.visits(), 2);
    }

    private static void cyclicSequences() {
        due.about("CYCLIC");
        int[][][] rows = {
            {{6}, {0}}, {{0}, {7}}, {{7}, {0}}, {{7}, {6}}, {{7}, {7}}, {{7, 7, 7, 7}, {0, 1, 2, 3}}, {{}, {6, 6}},
            {{1, 2, 3, 6}, {}}
        };
        int[][] wanted = {{-2, 0}, {0, -2}, {0, 0}, {-2, -2}, {-2, -2}, {0, 0}, {0, 0}, {-2, 0}};
        for (int i = 0; i < rows.length; i++) {
            RuleGraph x = Graphs.fourFields();
            for (int s = 0; s < 2; s++) {
                for (int g : rows[i][s]) {
                    x.member(6 + s, g);
                }
            }
            due.is("validate(0, 6) of " + i, x.validate(0, 6), wanted[i][0]);
            due.is("visits() of " + i, x.visits() > 0 ? 1 : 0, wanted[i][0] == 0 && i != 6 ? 1 : 0);
            due.is("validate(0, 7) of " + i, x.validate(0, 7), wanted[i][1]);
        }
        RuleGraph x = Graphs.fourFields();
        x.rule(0, false, 1, 1, 0, 1);
        x.order(0, 1);
        x.member(6, 0);
        x.member(6, 6);
        due.is("validate(0, 0)", x.validate(0, 0), -3);
        due.is("CYCLIC is met before any check", x.validate(0, 6), -2);
        due.is("found()", x.found(), 0);
        due.is("visits()", x.visits(), 0);
    }
}
