/** Promises 16 (validate), 17 (look), 18 (found), 19 (visits), 20 (violation) and 21 (way). */
public final class CheckTest {
    private static final Due due = new Due();

    public static void main(String[] args) {
        validateRefusedChangesNothing();
        rulesBeforeCascades();
        fieldsThatItHasAlone();
        checkedAlreadyOnTheWay();
        sameObjectOnAnotherWay();
        stagesOfAnOrder();
        stageEndsByWhatItLedTo();
        stagesAfterEarlierViolations();
        stageOfAnOrderIsNoCheckOfItsGroup();
        ordersOfObjectsThatFieldsLeadTo();
        firstFailureIsMet();
        sixtyVisits();
        visitsOfASequence();
        sixteenChecks();
        twentyFourViolations();
        lookAtOneField();
        lookIsNoVisit();
        lookRefusedChangesNothing();
        violationRefused();
        violationStaysAsFound();
        wayRefused();
        due.end();
    }

    private static void validateRefusedChangesNothing() {
        due.about("promise 16: validate refused");
        RuleGraph x = Graphs.net(2);
        x.put(0, 1, 1);
        due.is("validate(0, 0)", x.validate(0, 0), 2);
        int[][] wrong = {{2, 0}, {-1, 0}, {0, -1}, {0, 8}, {Integer.MIN_VALUE, Integer.MAX_VALUE}};
        for (int[] w : wrong) {
            due.is("validate(" + w[0] + ", " + w[1] + ")", x.validate(w[0], w[1]), -1);
            due.is("found()", x.found(), 2);
            due.is("visits()", x.visits(), 2);
            due.violation(x, 1, "f1.f2", 1, 2, -1, 0, -1, 0);
        }
        x.put(0, 2, 1);
        x.put(1, 2, 1);
        due.is("validate(0, 0)", x.validate(0, 0), 0);
        due.is("found()", x.found(), 0);
        due.is("violation(0, 0)", x.violation(0, 0), -1);
    }

    private static void rulesBeforeCascades() {
        due.about("rules before cascades, both by number");
        RuleGraph x = Graphs.net(4);
        x.rule(1, false, 0, 0, 0, 1);
        Graphs.lead(x, 0, 3, 2);
        x.put(0, 1, 1);
        due.is("validate(0, 0)", x.validate(0, 0), 7);
        due.is("visits()", x.visits(), 4);
        due.violation(x, 0, "f2", 0, 2, -1, 0, -1, 0);
        due.violation(x, 1, "f0[0].f2", 3, 2, -1, 0, -1, 0);
        due.violation(x, 2, "f0[0].f1", 3, 1, -1, 6, -1, -1);
        due.violation(x, 3, "f0[1].f2", 2, 2, -1, 0, -1, 0);
        due.violation(x, 4, "f0[1].f1", 2, 1, -1, 6, -1, -1);
        due.violation(x, 5, "f1.f2", 1, 2, -1, 0, -1, 0);
        due.violation(x, 6, "f1.f1", 1, 1, -1, 6, -1, -1);
    }

    private static void fieldsThatItHasAlone() {
        due.about("rules and cascades of fields that it has alone");
        RuleGraph x = Graphs.net(1);
        x.type(-1);
        x.field(1, 1);
        x.cascade(3);
        x.rule(0, false, 0, 0, 0, 1);
        x.rule(3, false, 0, 0, 0, 1);
        x.object(1);
        due.is("validate(1, 0)", x.validate(1, 0), 1);
        due.violation(x, 0, "f3", 1, 3, -1, 7, -1, -1);
        x.put(1, 3, 0);
        due.is("validate(1, 0)", x.validate(1, 0), 2);
        due.violation(x, 0, "f3.f2", 0, 2, -1, 0, -1, 0);
        due.violation(x, 1, "f3.f0", 0, 0, -1, 6, -1, -1);
    }

    private static void checkedAlreadyOnTheWay() {
        due.about("checked already on the way");
        RuleGraph x = Graphs.net(2);
        x.put(0, 1, 0);
        due.is("a link to itself", x.validate(0, 0), 1);
        due.is("visits()", x.visits(), 1);
        x.convert(1, 0, 3);
        due.is("for another group", x.validate(0, 0), 2);
        due.is("visits()", x.visits(), 2);
        due.violation(x, 0, "f2", 0, 2, -1, 0, -1, 0);
        due.violation(x, 1, "f1.f2", 0, 2, -1, 3, -1, 0);
        x.put(0, 1, 1);
        x.put(1, 1, 0);
        due.is("0 for 0, 1 for 3, 0 for 3", x.validate(0, 0), 3);
        due.is("visits()", x.visits(), 3);
        due.violation(x, 2, "f1.f1.f2", 0, 2, -1, 3, -1, 0);
    }

    private static void sameObjectOnAnotherWay() {
        due.about("the same object on other ways");
        RuleGraph x = Graphs.net(3);
        Graphs.lead(x, 0, 1, 2, 1);
        x.put(2, 1, 1);
        x.put(1, 1, 0);
        due.is("validate(0, 0)", x.validate(0, 0), 5);
        due.is("visits()", x.visits(), 5);
        String[] ways = {"f2", "f0[0].f2", "f0[1].f2", "f0[1].f1.f2", "f0[2].f2"};
        int[] objects = {0, 1, 2, 1, 1};
        for (int k = 0; k < 5; k++) {
            due.violation(x, k, ways[k], objects[k], 2, -1, 0, -1, 0);
        }
    }

    private static void stagesOfAnOrder() {
        due.about("stages of an order");
        RuleGraph x = new RuleGraph();
        x.type(-1);
        x.field(0, 0);
        for (int g = 0; g < 6; g++) {
            x.rule(0, false, 1, g == 0 ? 6 : g, 0, 1 << g);
        }
        x.object(0);
        int[] entries = {3, 4, -1, 1};
        for (int g : entries) {
            x.order(0, g);
        }
        x.extend(4, 5);
        int[] first = {3, 3, 3, 4, 5, 0, -1};
        int[] count = {1, 1, 1, 2, 1, 1, 0};
        for (int v = 0; v < 7; v++) {
            x.put(0, 0, v);
            due.is("validate(0, 0) at " + v, x.validate(0, 0), count[v]);
            due.is("violation(0, 3)", x.violation(0, 3), first[v]);
            due.is("visits()", x.visits(), 1);
        }
        x.put(0, 0, 0);
        due.is("the order is for DEFAULT alone", x.validate(0, 2), 1);
        due.is("violation(0, 3)", x.violation(0, 3), 2);
        x.member(6, 2);
        x.member(6, 0);
        x.put(0, 0, 2);
        due.is("DEFAULT in a sequence", x.validate(0, 6), 1);
        due.is("violation(0, 3)", x.violation(0, 3), 3);
    }

    private static void stageEndsByWhatItLedTo() {
        due.about("a stage ends by what it led to");
        RuleGraph x = Graphs.net(2);
        x.put(0, 2, 1);
        x.put(0, 1, 1);
        x.order(0, 2);
        x.order(0, -1);
        due.is("validate(0, 0)", x.validate(0, 0), 1);
        due.violation(x, 0, "f1.f2", 1, 2, -1, 2, -1, 0);
        due.is("visits()", x.visits(), 2);
        x.put(1, 2, 1);
        due.is("validate(0, 0)", x.validate(0, 0), 0);
        due.is("visits(): 0 for 0, 1 for 2, 1 for 0", x.visits(), 3);
    }

    private static void stagesAfterEarlierViolations() {
        due.about("earlier violations end no stage of another object");
        RuleGraph x = Graphs.net(2);
        x.type(0);
        x.object(1);
        x.order(0, 2);
        x.order(0, -1);
        x.put(1, 2, 1);
        x.put(2, 1, 1);
        x.field(0, 2);
        x.rule(3, false, 0, 0, 0, 1);
        due.is("validate(2, 0)", x.validate(2, 0), 3);
        due.violation(x, 0, "f2", 2, 2, -1, 0, -1, 0);
        due.violation(x, 1, "f3", 2, 3, -1, 6, -1, -1);
        due.violation(x, 2, "f1.f3", 1, 3, -1, 6, -1, -1);
    }

    private static void stageOfAnOrderIsNoCheckOfItsGroup() {
        due.about("a stage of an order is no check of its group");
        RuleGraph x = Graphs.net(1);
        x.put(0, 1, 0);
        x.put(0, 2, 1);
        x.order(0, 2);
        x.order(0, -1);
        x.convert(1, 2, 4);
        due.is("validate(0, 0)", x.validate(0, 0), 0);
        due.is("visits(): for 0, for 4", x.visits(), 2);
        x.convert(1, 2, 2);
        due.is("validate(0, 0)", x.validate(0, 0), 0);
        due.is("visits(): for 0, for 2", x.visits(), 2);
        x.convert(1, 2, 0);
        due.is("validate(0, 0)", x.validate(0, 0), 0);
        due.is("visits(): for 0", x.visits(), 1);
    }

    private static void ordersOfObjectsThatFieldsLeadTo() {
        due.about("orders of objects that fields lead to");
        RuleGraph x = Graphs.net(1);
        x.type(0);
        x.object(1);
        x.put(0, 1, 1);
        x.order(1, 2);
        due.is("validate(0, 0)", x.validate(0, 0), -3);
        due.is("found()", x.found(), 0);
        due.is("visits()", x.visits(), 2);
        due.is("violation(0, 0)", x.violation(0, 0), -1);
        due.is("validate(0, 1)", x.validate(0, 1), 2);
        x.convert(1, 1, 0);
        due.is("validate(0, 1)", x.validate(0, 1), -3);
        x.order(1, -1);
        due.is("validate(0, 1)", x.validate(0, 1), 2);
        due.violation(x, 0, "f2", 0, 2, -1, 1, -1, 0);
        due.violation(x, 1, "f1.f2", 1, 2, -1, 2, -1, 0);
    }

    private static void firstFailureIsMet() {
        due.about("the first failure that is met");
        RuleGraph x = Graphs.net(1);
        x.type(0);
        x.object(1);
        x.put(0, 1, 1);
        x.field(1, 0);
        x.rule(3, true, 1, 0, 0, 63);
        x.order(1, 1);
        due.is("ORDER before FIT", x.validate(0, 0), -3);
        due.is("FIT, without the order", x.validate(0, 1), -4);
        due.is("found()", x.found(), 0);
        due.is("visits()", x.visits(), 2);
        x.rule(0, true, 1, 0, 0, 1);
        due.is("FIT before ORDER", x.validate(0, 0), -4);
        due.is("visits()", x.visits(), 1);
        x.member(6, 2);
        x.member(6, 1);
        x.put(0, 1, -1);
        due.is("a violation before FIT is met ends a sequence", x.validate(0, 6), 1);
    }

    /** Object 0 is visited 60 times less one by what object 5 leads to; see the sums. */
    private static RuleGraph sixty() {
        RuleGraph x = Graphs.net(6);
        for (int o = 0; o < 6; o++) {
            x.put(o, 2, 1);
        }
        Graphs.lead(x, 1, 0, 0, 0); // 4 visits
        Graphs.lead(x, 2, 1, 1, 1); // 13
        Graphs.lead(x, 3, 2, 2, 2); // 40
        Graphs.lead(x, 4, 1, 0); // 6
        Graphs.lead(x, 5, 3, 2, 4); // 60
        return x;
    }

    private static void sixtyVisits() {
        due.about("sixty visits");
        RuleGraph x = sixty();
        due.is("validate(5, 0)", x.validate(5, 0), 0);
        due.is("visits()", x.visits(), 60);
        x.put(5, 1, 5);
        due.is("one that is being checked is no visit", x.validate(5, 0), 0);
        due.is("visits()", x.visits(), 60);
        x.put(5, 1, 0);
        due.is("the sixty-first", x.validate(5, 0), -5);
        due.is("visits()", x.visits(), 60);
        x.put(5, 1, -1);
        x.put(5, 2, 0);
        Graphs.lead(x, 4, 0);
        due.is("the sixty-first, with a violation", x.validate(5, 0), -5);
        due.is("found()", x.found(), 0);
        due.is("the next call has its own visits", x.validate(3, 0), 0);
        due.is("visits()", x.visits(), 40);
    }

    private static void visitsOfASequence() {
        due.about("visits of a sequence");
        RuleGraph x = sixty();
        x.member(6, 0);
        x.member(6, 1);
        due.is("validate(3, 6)", x.validate(3, 6), -5);
        due.is("visits()", x.visits(), 60);
        due.is("validate(2, 6)", x.validate(2, 6), 0);
        due.is("visits()", x.visits(), 26);
    }

    /** A chain over f1 through all objects and over f3, which makes 1 of 0, back to the first. */
    private static RuleGraph ring(int objects) {
        RuleGraph x = Graphs.net(objects);
        x.field(0, 1);
        x.cascade(3);
        x.convert(3, 0, 1);
        for (int o = 0; o < objects; o++) {
            x.put(o, 2, 1);
            x.put(o, o < objects - 1 ? 1 : 3, (o + 1) % objects);
        }
        return x;
    }

    private static void sixteenChecks() {
        due.about("sixteen checks");
        RuleGraph x = ring(8);
        due.is("sixteen", x.validate(0, 0), 0);
        due.is("visits()", x.visits(), 16);
        x = ring(9);
        due.is("the seventeenth", x.validate(0, 0), -5);
        due.is("visits()", x.visits(), 16);
        due.is("nine, in the next call", x.validate(0, 1), 0);
        due.is("visits()", x.visits(), 9);
        x.put(8, 2, 0);
        due.is("validate(8, 1)", x.validate(8, 1), 1);
        due.violation(x, 0, "f2", 8, 2, -1, 1, -1, 0);
    }

    private static void twentyFourViolations() {
        due.about("twenty-four violations");
        RuleGraph x = new RuleGraph();
        x.type(-1);
        x.field(0, 2);
        x.object(0);
        for (int i = 0; i < 3; i++) {
            x.append(0, 0, i);
        }
        for (int r = 0; r < 8; r++) {
            x.rule(0, true, 1, 9, 0, 1);
        }
        x.rule(0, false, 3, 3, 3, 1);
        due.is("validate(0, 0)", x.validate(0, 0), 24);
        due.is("look(0, 0, 0)", x.look(0, 0, 0), 24);
        due.violation(x, 23, "f0[2]", 0, 0, 2, 7, -1, 2);
        due.is("violation(24, 0)", x.violation(24, 0), -1);
        x.rule(0, false, 3, 0, 2, 1);
        due.is("validate(0, 0) of 25", x.validate(0, 0), -5);
        due.is("found()", x.found(), 0);
        due.is("visits()", x.visits(), 1);
        due.is("look(0, 0, 0) of 25", x.look(0, 0, 0), -5);
        due.is("found()", x.found(), 0);
        x.rule(0, false, 1, 0, 0, 1);
        due.is("ROOM before FIT", x.validate(0, 0), -5);
        x.clear(0, 0, true);
        due.is("FIT", x.validate(0, 0), -4);
    }

    private static void lookAtOneField() {
        due.about("promise 17: look");
        RuleGraph x = Graphs.net(2);
        x.type(0);
        x.field(1, 0);
        x.object(1);
        x.rule(3, false, 1, 5, 0, 4);
        x.rule(0, true, 1, 0, 0, 1);
        x.put(2, 1, 0);
        x.order(1, 3);
        due.is("validate(2, 0)", x.validate(2, 0), -3);
        due.is("look(2, 2, 0), without the order", x.look(2, 2, 0), 1);
        due.violation(x, 0, "f2", 2, 2, -1, 0, -1, 0);
        due.is("look(2, 1, 0), without what it leads to", x.look(2, 1, 0), 0);
        due.is("look(2, 0, 0)", x.look(2, 0, 0), -4);
        due.is("found()", x.found(), 0);
        due.is("look(2, 3, 0)", x.look(2, 3, 0), 0);
        due.is("look(2, 3, 2)", x.look(2, 3, 2), 1);
        x.extend(1, 2);
        due.is("look(2, 3, 1), by the closure", x.look(2, 3, 1), 1);
        due.violation(x, 0, "f3", 2, 3, -1, 6, -1, 0);
        due.is("look(2, 2, 1)", x.look(2, 2, 1), 2);
        due.is("violation(1, 3)", x.violation(1, 3), 2);
    }

    private static void lookIsNoVisit() {
        due.about("promise 19: visits");
        RuleGraph x = Graphs.net(2);
        x.put(0, 1, 1);
        due.is("look(0, 2, 0)", x.look(0, 2, 0), 1);
        due.is("visits() before", x.visits(), 0);
        due.is("found()", x.found(), 1);
        x.validate(0, 0);
        due.is("visits()", x.visits(), 2);
        due.is("found()", x.found(), 2);
        due.is("look(1, 2, 5)", x.look(1, 2, 5), 1);
        due.is("visits()", x.visits(), 2);
        due.is("found()", x.found(), 1);
        due.violation(x, 0, "f2", 1, 2, -1, 5, -1, 0);
    }

    private static void lookRefusedChangesNothing() {
        due.about("promise 17: look refused");
        RuleGraph x = Graphs.net(1);
        x.type(-1);
        x.field(1, 0);
        x.validate(0, 0);
        int[][] wrong = {{1, 2, 0}, {-1, 2, 0}, {0, 4, 0}, {0, -1, 0}, {0, 3, 0}, {0, 2, -1}, {0, 2, 6}, {0, 2, 7}};
        for (int[] w : wrong) {
            due.is("look(" + w[0] + ", " + w[1] + ", " + w[2] + ")", x.look(w[0], w[1], w[2]), -1);
            due.is("found()", x.found(), 1);
            due.violation(x, 0, "f2", 0, 2, -1, 0, -1, 0);
        }
    }

    private static void violationRefused() {
        due.about("promise 20: violation refused");
        RuleGraph x = Graphs.net(1);
        x.put(0, 2, -7);
        x.validate(0, 3);
        due.violation(x, 0, "f2", 0, 2, -1, 3, -1, -7);
        due.is("violation(0, -1)", x.violation(0, -1), -1);
        due.is("violation(0, 6)", x.violation(0, 6), -1);
        due.is("violation(1, 0)", x.violation(1, 0), -1);
        due.is("violation(-1, 0)", x.violation(-1, 0), -1);
        due.is("violation(24, 0)", x.violation(24, 0), -1);
    }

    private static void violationStaysAsFound() {
        due.about("promise 20: as it was when it was found");
        RuleGraph x = Graphs.net(2);
        x.field(0, 2);
        x.rule(3, false, 3, 2, 2, 1);
        x.rule(3, true, 1, 9, 0, 1);
        x.append(0, 3, 4);
        x.put(0, 1, 1);
        due.is("validate(0, 0)", x.validate(0, 0), 4);
        x.put(0, 2, 8);
        x.put(0, 1, -1);
        x.clear(0, 3, true);
        x.rule(2, false, 1, 1, 0, 1);
        x.extend(0, 1);
        due.is("found()", x.found(), 4);
        due.violation(x, 0, "f2", 0, 2, -1, 0, -1, 0);
        due.violation(x, 1, "f3", 0, 3, -1, 6, -1, 1);
        due.violation(x, 2, "f3[0]", 0, 3, 0, 7, -1, 4);
        due.violation(x, 3, "f1.f2", 1, 2, -1, 0, -1, 0);
    }

    private static void wayRefused() {
        due.about("promise 21: way refused");
        RuleGraph x = Graphs.net(2);
        x.put(0, 1, 1);
        due.is("validate(0, 0)", x.validate(0, 0), 2);
        due.is("way(1, -1)", x.way(1, -1), 5);
        due.is("way(1, 4)", x.way(1, 4), '2');
        due.is("way(1, 5)", x.way(1, 5), -1);
        due.is("way(0, -1)", x.way(0, -1), 2);
        due.is("way(0, 2)", x.way(0, 2), -1);
        due.is("way(1, -2)", x.way(1, -2), -1);
        due.is("way(1, most)", x.way(1, Integer.MAX_VALUE), -1);
        due.is("way(2, -1)", x.way(2, -1), -1);
        due.is("way(-1, 0)", x.way(-1, 0), -1);
        x.order(0, 1);
        due.is("validate(0, 0)", x.validate(0, 0), -3);
        due.is("way(0, -1)", x.way(0, -1), -1);
    }
}
