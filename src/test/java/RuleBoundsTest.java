/** The ends of promises 4 (rule), 5 (part), 6 (single), 7 (extend) and 8 (member). */
public final class RuleBoundsTest {
    private static final int[] WIDE = {Integer.MIN_VALUE, -1, 0, 3, Integer.MAX_VALUE};
    private static final int[] OUTSIDE_GROUPS = {-1, 6, 7, 32, Integer.MIN_VALUE, Integer.MAX_VALUE};

    private static final Due due = new Due();
    private static final Bounds bounds = new Bounds(due);

    public static void main(String[] args) {
        rule();
        part();
        single();
        extend();
        member();
        due.end();
    }

    private static void rule() {
        twentyFourRules();
        ruleOnNoField();
        ruleOfNoKind();
        ruleOfNoComposition();
        otherKindsTakeAnyNumbers();
        groupsAreOneToSixtyThree();
        oneBitForEachGroup();
        elementRuleByElement();
    }

    private static void part() {
        partOfNoComposition();
        threeParts();
        partOfNoKind();
        partsStandBehindOthers();
    }

    private static void single() {
        singleOfNoComposition();
        singleFromNowOnOrNot();
    }

    private static void extend() {
        extendByNoGroup();
        extendOfNoGroup();
        extendOfItself();
        extendBackOverOne();
        extendBackOverAll();
        extendAgain();
    }

    private static void member() {
        memberOfNoSequence();
        fourMembers();
        memberThatIsNone();
    }

    private static RuleGraph rules(int count) {
        RuleGraph x = Graphs.rich();
        for (int r = 10; r < count; r++) {
            due.is("rule", x.rule(r % 6, false, 4, 2, 0, 1), r);
        }
        return x;
    }

    private static void twentyFourRules() {
        due.about("promise 4: NONE when there are 24");
        for (int kind = 0; kind < 5; kind++) {
            int k = kind;
            due.is("the twenty-fourth", rules(23).rule(0, false, kind, 1, 1, 63), 23);
            bounds.refused(() -> rules(24), "the twenty-fifth of kind " + kind, x -> x.rule(0, false, k, 1, 1, 63));
        }
        RuleGraph x = Graphs.fourFields();
        for (int r = 0; r < 24; r++) {
            x.rule(0, false, 1, r == 23 ? 1 : 0, 0, 1);
        }
        x.rule(0, false, 1, 1, 0, 1);
        due.is("the twenty-fourth is looked at, the refused one is not", x.validate(0, 0), 1);
        due.violation(x, 0, "f0", 0, 0, -1, 23, -1, 0);
    }

    private static void ruleOnNoField() {
        due.about("promise 4: NONE when there is no such field");
        bounds.range(RuleGraph::new, "without fields, field", 0, -1, (x, f) -> x.rule(f, false, 0, 0, 0, 1));
        bounds.range(Graphs::rich, "field", 0, 5, (x, f) -> x.rule(f, false, 0, 0, 0, 1));
        bounds.range(Graphs::rich, "elements of field", 0, 5, (x, f) -> x.rule(f, true, 0, 0, 0, 1));
    }

    private static void ruleOfNoKind() {
        due.about("promise 4: NONE when kind is not 0 .. 4");
        bounds.range(Graphs::rich, "kind", 0, 4, (x, kind) -> x.rule(2, false, kind, 1, 1, 1));
        bounds.range(Graphs::rich, "kind of elements", 0, 4, (x, kind) -> x.rule(2, true, kind, 1, 1, 1));
    }

    private static void ruleOfNoComposition() {
        due.about("promise 4: NONE when it is 4 and a is not 0 .. 2");
        bounds.range(Graphs::rich, "composition", 0, 2, (x, a) -> x.rule(2, false, 4, a, 1, 1));
        bounds.range(Graphs::rich, "composition of elements", 0, 2, (x, a) -> x.rule(2, true, 4, a, 1, 1));
    }

    private static void otherKindsTakeAnyNumbers() {
        due.about("promise 4: a and b of other kinds, and b of a composition, are free");
        for (int n : WIDE) {
            for (int kind = 0; kind < 4; kind++) {
                due.is("rule of kind " + kind + " with " + n, Graphs.fourFields().rule(2, false, kind, n, n, 1), 0);
            }
            due.is("composition with b " + n, Graphs.fourFields().rule(2, false, 4, 2, n, 1), 0);
        }
    }

    private static void groupsAreOneToSixtyThree() {
        due.about("promise 4: NONE when groups is not 1 .. 63");
        bounds.range(Graphs::rich, "groups", 1, 63, (x, groups) -> x.rule(0, false, 1, 1, 0, groups));
        bounds.refused(Graphs::rich, "groups 65", x -> x.rule(0, false, 1, 1, 0, 65));
        bounds.refused(Graphs::rich, "groups -1", x -> x.rule(0, false, 1, 1, 0, -1));
    }

    private static void oneBitForEachGroup() {
        due.about("promise 4: bit g for group g");
        for (int groups = 1; groups < 64; groups++) {
            RuleGraph x = Graphs.fourFields();
            x.rule(0, false, 1, 1, 0, groups);
            for (int g = 0; g < 6; g++) {
                due.is("groups " + groups + " for " + g, x.validate(0, g), groups >> g & 1);
            }
        }
    }

    private static void elementRuleByElement() {
        due.about("promise 4: on each element, or on the field");
        RuleGraph x = Graphs.fourFields();
        x.rule(2, true, 1, 9, 0, 1);
        x.rule(2, false, 3, 9, 9, 2);
        due.is("elements of none", x.validate(0, 0), 0);
        x.clear(0, 2, false);
        for (int size = 0; size <= 3; size++) {
            due.is("elements of " + size, x.validate(0, 0), size);
            for (int k = 0; k < size; k++) {
                due.violation(x, k, "f2[" + k + "]", 0, 2, k, 0, -1, k);
            }
            due.is("the field of " + size, x.validate(0, 1), 1);
            due.violation(x, 0, "f2", 0, 2, -1, 1, -1, size);
            x.append(0, 2, size);
        }
    }

    private static void partOfNoComposition() {
        due.about("promise 5: false when there is no such composition");
        bounds.range(Graphs::rich, "composition", 0, 2, (x, c) -> x.part(c, 1, 0, 0));
    }

    /** The rich graph's compositions 0 and 1 have two parts already. */
    private static RuleGraph parts(int c, int count) {
        RuleGraph x = Graphs.rich();
        for (int p = c == 2 ? 0 : 2; p < count; p++) {
            due.yes("part", x.part(c, 1, p, 0));
        }
        return x;
    }

    private static void threeParts() {
        due.about("promise 5: false when it has 3");
        for (int i = 0; i < 3; i++) {
            int c = i;
            due.yes("the third of " + c, parts(c, 2).part(c, 1, 9, 0));
            bounds.refusedFor(() -> parts(c, 3), "the fourth of " + c + ", of kind", (x, kind) -> x.part(c, kind, 9, 0),
                0, 1, 2, 3);
            due.yes("another composition", parts(c, 3).part((c + 1) % 3, 1, 9, 0));
        }
    }

    private static void partOfNoKind() {
        due.about("promise 5: false when kind is not 0 .. 3");
        bounds.range(Graphs::rich, "kind", 0, 3, (x, kind) -> x.part(0, kind, 0, 0));
        bounds.range(Graphs::rich, "kind in an empty one", 0, 3, (x, kind) -> x.part(2, kind, 0, 0));
    }

    private static void partsStandBehindOthers() {
        due.about("promise 5: a part stands behind the others");
        RuleGraph x = Graphs.fourFields();
        x.rule(0, false, 4, 1, 0, 1);
        for (int p = 0; p < 3; p++) {
            x.part(1, 1, p + 1, 0);
            x.put(0, 0, p);
            due.is("only the last of " + (p + 1) + " is broken", x.validate(0, 0), 1);
            due.violation(x, 0, "f0", 0, 0, -1, 0, p, p);
        }
        x.put(0, 0, 1);
        due.is("the last two are broken", x.validate(0, 0), 2);
        due.violation(x, 0, "f0", 0, 0, -1, 0, 1, 1);
        due.violation(x, 1, "f0", 0, 0, -1, 0, 2, 1);
    }

    private static void singleOfNoComposition() {
        due.about("promise 6: false when there is no such composition");
        bounds.range(Graphs::rich, "composition", 0, 2, (x, c) -> x.single(c, true));
        bounds.range(Graphs::rich, "composition, not single", 0, 2, (x, c) -> x.single(c, false));
    }

    private static void singleFromNowOnOrNot() {
        due.about("promise 6: single from now on, or not");
        for (int c = 0; c < 3; c++) {
            RuleGraph x = Graphs.fourFields();
            x.rule(0, false, 4, c, 0, 1);
            x.part(c, 1, 1, 0);
            x.part(c, 1, 2, 0);
            boolean[] turns = {false, true, true, false, true};
            for (boolean on : turns) {
                due.yes("single(" + c + ", " + on + ")", x.single(c, on));
                due.is("validate(0, 0)", x.validate(0, 0), on ? 1 : 2);
                due.violation(x, 0, "f0", 0, 0, -1, 0, on ? -1 : 0, 0);
            }
            x.single((c + 1) % 3, false);
            due.is("another one is not single", x.validate(0, 0), 1);
        }
    }

    private static void extendByNoGroup() {
        due.about("promise 7: false, changing nothing, when g is not 0 .. 5");
        bounds.takenFor(Graphs::rich, "extend by", (x, g) -> x.extend(g, 2), 0, 1, 3, 4, 5);
        bounds.refusedFor(Graphs::rich, "extend by", (x, g) -> x.extend(g, 2), OUTSIDE_GROUPS);
    }

    private static void extendOfNoGroup() {
        due.about("promise 7: false, changing nothing, when h is not 0 .. 5");
        bounds.takenFor(Graphs::rich, "extend of", (x, h) -> x.extend(2, h), 0, 1, 3, 4, 5);
        bounds.refusedFor(Graphs::rich, "extend of", (x, h) -> x.extend(2, h), OUTSIDE_GROUPS);
    }

    private static void extendOfItself() {
        due.about("promise 7: false, changing nothing, when g is h");
        bounds.refusedFor(Graphs::rich, "extend of itself by", (x, g) -> x.extend(g, g), 0, 1, 2, 3, 4, 5);
    }

    private static void extendBackOverOne() {
        due.about("promise 7: false, changing nothing, when h extends g");
        bounds.refused(Graphs::rich, "extend(3, 1)", x -> x.extend(3, 1));
        bounds.taken(Graphs::rich, "extend(1, 3)", x -> x.extend(1, 3));
    }

    /** Each group extends the next, made from the last on or from the first on. */
    private static RuleGraph chain(boolean fromFirst) {
        RuleGraph x = Graphs.net(1);
        for (int i = 0; i < 5; i++) {
            int g = fromFirst ? i : 4 - i;
            due.yes("extend(" + g + ", " + (g + 1) + ")", x.extend(g, g + 1));
        }
        return x;
    }

    private static void extendBackOverAll() {
        due.about("promise 7: false, changing nothing, when g is in the closure of h");
        for (int i = 0; i < 36; i++) {
            int g = i / 6;
            int h = i % 6;
            String call = "extend(" + g + ", " + h + ")";
            if (g >= h) {
                bounds.refused(() -> chain(true), call, x -> x.extend(g, h));
                bounds.refused(() -> chain(false), call, x -> x.extend(g, h));
            } else {
                bounds.taken(() -> chain(true), call, x -> x.extend(g, h));
                bounds.taken(() -> chain(false), call, x -> x.extend(g, h));
            }
        }
        for (int g = 0; g < 6; g++) {
            due.is("the closure of " + g, chain(true).validate(0, g), 6 - g);
            due.is("the closure of " + g, chain(false).validate(0, g), 6 - g);
        }
    }

    private static void extendAgain() {
        due.about("promise 7: a group that is extended already");
        RuleGraph x = chain(true);
        due.yes("extend(0, 1) again", x.extend(0, 1));
        due.yes("extend(0, 5)", x.extend(0, 5));
        due.is("rules are looked at once", x.validate(0, 0), 6);
    }

    private static void memberOfNoSequence() {
        due.about("promise 8: false when s is not 6 or 7");
        bounds.range(Graphs::rich, "sequence", 6, 7, (x, s) -> x.member(s, 1));
        bounds.refused(Graphs::rich, "sequence 0", x -> x.member(0, 1));
    }

    /** The rich graph's sequences have two members already. */
    private static RuleGraph members(int s, int count) {
        RuleGraph x = Graphs.rich();
        for (int i = 2; i < count; i++) {
            due.yes("member(" + s + ", " + i + ")", x.member(s, i));
        }
        return x;
    }

    private static void fourMembers() {
        due.about("promise 8: false when it has 4");
        for (int i = 6; i < 8; i++) {
            int s = i;
            int[] all = {0, 1, 2, 3, 4, 5, 6, 7};
            bounds.takenFor(() -> members(s, 3), "the fourth of " + s, (x, g) -> x.member(s, g), all);
            bounds.refusedFor(() -> members(s, 4), "the fifth of " + s, (x, g) -> x.member(s, g), all);
            due.yes("the other sequence", members(s, 4).member(13 - s, 1));
        }
    }

    private static void memberThatIsNone() {
        due.about("promise 8: false when there is no such group or sequence");
        bounds.range(Graphs::rich, "member of 6", 0, 7, (x, g) -> x.member(6, g));
        bounds.range(Graphs::rich, "member of 7", 0, 7, (x, g) -> x.member(7, g));
    }
}
