/** The ends of promises 16 (validate) to 21 (way), and of the room that a check has. */
public final class CheckBoundsTest {
    private static final int LEAST_INT = Integer.MIN_VALUE;
    private static final int MOST_INT = Integer.MAX_VALUE;

    private static final Due due = new Due();
    private static final Bounds bounds = new Bounds(due);

    public static void main(String[] args) {
        room();
        validate();
        look();
        found();
        visits();
        violation();
        way();
        callsOfOneObject();
        due.end();
    }

    private static void room() {
        sixtyVisits();
        sixtyVisitsOfASequence();
        noVisitIsNoRoomAfterSixty();
        sixteenChecks();
        sixteenChecksAtOnceAlone();
        twentyFourViolations();
        twentyFourViolationsOfParts();
        twentyFourViolationsOfTwoObjects();
        roomOfAStage();
        roomIsOfEachCall();
    }

    private static void validate() {
        validateOfNoObject();
        validateForNoGroup();
        upToTheFirstGroupWithAViolation();
        firstFailureThatIsMet();
        noneAfterAFailure();
    }

    private static void look() {
        lookAtNoObject();
        lookAtNoField();
        lookAtAFieldOfAnotherClass();
        lookForNoGroup();
        lookIgnoresTheRest();
    }

    private static void found() {
        foundBefore();
        foundOfTheLatest();
    }

    private static void visits() {
        visitsBefore();
        visitsOfTheLatestValidate();
    }

    private static void violation() {
        violationThatIsNone();
        violationOfNoFact();
        violationWithoutElementOrPart();
        violationOfAnElementOrPart();
        violationAsItWas();
    }

    private static void way() {
        wayToNoViolation();
        wayOfNoCharacter();
        wayWithPlacesAndDots();
        wayOfTwoDigits();
        longestWay();
    }

    /** Checks of object 0 make 59 visits, and one more for each leaf. */
    private static RuleGraph visited(int leaves) {
        RuleGraph x = Graphs.net(7);
        for (int o = 0; o < 7; o++) {
            x.put(o, 2, 1);
        }
        Graphs.lead(x, 4, 5, 5, 5); // 4 visits
        Graphs.lead(x, 3, 4, 4, 4); // 13
        Graphs.lead(x, 2, 3, 3, 3); // 40
        Graphs.lead(x, 6, 4); // 5
        Graphs.lead(x, 0, 2, 3, 6); // 59
        for (int i = 0; i < leaves; i++) {
            x.append(6, 0, 5);
        }
        return x;
    }

    private static void sixtyVisits() {
        due.about("ROOM instead of a visit if there were 60 in this call");
        int[] visits = {59, 60, 60};
        for (int leaves = 0; leaves < 3; leaves++) {
            RuleGraph x = visited(leaves);
            due.is("validate(0, 0) of " + (59 + leaves), x.validate(0, 0), leaves == 2 ? -5 : 0);
            due.is("visits()", x.visits(), visits[leaves]);
            x.put(0, 2, 0);
            due.is("with a violation before", x.validate(0, 0), leaves == 2 ? -5 : 1);
            due.is("found()", x.found(), leaves == 2 ? 0 : 1);
        }
    }

    private static void sixtyVisitsOfASequence() {
        due.about("60 visits of all the groups of a sequence");
        RuleGraph x = visited(0);
        x.put(1, 1, 3);
        x.object(0);
        x.put(7, 2, 1);
        x.put(7, 1, 1); // 15 visits
        for (int g = 0; g < 4; g++) {
            x.member(6, g);
        }
        x.member(7, 6);
        due.is("four times 15", x.validate(7, 7), 0);
        due.is("visits()", x.visits(), 60);
        x.member(7, 0);
        due.is("five times 15", x.validate(7, 7), -5);
        due.is("visits()", x.visits(), 60);
    }

    private static void noVisitIsNoRoomAfterSixty() {
        due.about("what is being checked already needs no room");
        RuleGraph x = visited(1);
        x.put(0, 1, 0);
        due.is("validate(0, 0)", x.validate(0, 0), 0);
        due.is("visits()", x.visits(), 60);
        x.put(0, 1, 5);
        due.is("the sixty-first", x.validate(0, 0), -5);
    }

    /**
     * Nine objects in a chain over f1; the last leads to the first over f3, which makes 1 of 0. So
     * a check of object o for 0 needs 18 - o checks at once, and ends at one that is going on.
     */
    private static RuleGraph ring() {
        RuleGraph x = Graphs.net(9);
        x.field(0, 1);
        x.cascade(3);
        x.convert(3, 0, 1);
        for (int o = 0; o < 9; o++) {
            x.put(o, 2, 1);
            x.put(o, o < 8 ? 1 : 3, (o + 1) % 9);
        }
        return x;
    }

    private static void sixteenChecks() {
        due.about("ROOM instead of a visit if 16 checks are going on");
        RuleGraph x = ring();
        due.is("fifteen", x.validate(3, 0), 0);
        due.is("visits()", x.visits(), 15);
        due.is("sixteen", x.validate(2, 0), 0);
        due.is("visits()", x.visits(), 16);
        due.is("seventeen", x.validate(1, 0), -5);
        due.is("visits()", x.visits(), 16);
        due.is("eighteen", x.validate(0, 0), -5);
        due.is("visits()", x.visits(), 16);
        x.put(1, 2, 0);
        due.is("seventeen, with a violation before", x.validate(1, 0), -5);
        due.is("found()", x.found(), 0);
    }

    /** Every object of the ring but the last leads to object 9, whose check has ended before the next goes on. */
    private static void sixteenChecksAtOnceAlone() {
        due.about("checks that have ended take no room of the 16");
        RuleGraph x = ring();
        x.object(0);
        x.put(9, 2, 1);
        for (int o = 0; o < 8; o++) {
            Graphs.lead(x, o, 9);
        }
        due.is("sixteen at once", x.validate(2, 0), 0);
        due.is("visits()", x.visits(), 30);
        Graphs.lead(x, 8, 9);
        due.is("the seventeenth is a leaf", x.validate(2, 0), -5);
        due.is("visits()", x.visits(), 31);
        due.is("sixteen with that leaf", x.validate(3, 0), 0);
        due.is("visits()", x.visits(), 30);
    }

    /** A list of three elements that break as many of the rules as there are to be violations. */
    private static RuleGraph broken(int violations) {
        RuleGraph x = Graphs.fourFields();
        for (int i = 0; i < 3; i++) {
            x.append(0, 2, i);
        }
        for (int r = 0; r < violations / 3; r++) {
            x.rule(2, true, 1, 9, 0, 1);
        }
        for (int r = 0; r < violations % 3; r++) {
            x.rule(2, false, 3, 9, 9, 1);
        }
        return x;
    }

    private static void twentyFourViolations() {
        due.about("more than 24 violations of a call: ROOM");
        for (int n = 23; n <= 27; n++) {
            int wanted = n <= 24 ? n : -5;
            RuleGraph x = broken(n);
            due.is("validate(0, 0) of " + n, x.validate(0, 0), wanted);
            due.is("found()", x.found(), Math.max(wanted, 0));
            due.is("visits()", x.visits(), 1);
            due.is("look(0, 2, 0) of " + n, x.look(0, 2, 0), wanted);
            due.is("found()", x.found(), Math.max(wanted, 0));
            due.is("violation(0, 5)", x.violation(0, 5), n <= 24 ? 0 : -1);
        }
        RuleGraph x = broken(24);
        x.look(0, 2, 0);
        due.violation(x, 23, "f2[2]", 0, 2, 2, 7, -1, 2);
    }

    /** After 22 violations a composition of which two or three parts are broken. */
    private static void twentyFourViolationsOfParts() {
        due.about("more than 24 violations, of parts");
        for (int parts = 2; parts <= 3; parts++) {
            RuleGraph x = broken(22);
            for (int p = 0; p < parts; p++) {
                x.part(0, 3, 9, 9);
            }
            x.rule(2, false, 4, 0, 0, 1);
            due.is("validate(0, 0) of " + parts, x.validate(0, 0), parts == 2 ? 24 : -5);
            due.is("look(0, 2, 0) of " + parts, x.look(0, 2, 0), parts == 2 ? 24 : -5);
            x.single(0, true);
            due.is("validate(0, 0), single", x.validate(0, 0), 23);
        }
    }

    private static void twentyFourViolationsOfTwoObjects() {
        due.about("more than 24 violations, of two objects");
        RuleGraph x = broken(12);
        x.object(0);
        x.cascade(1);
        x.put(0, 1, 1);
        for (int i = 0; i < 3; i++) {
            x.append(1, 2, i);
        }
        due.is("validate(0, 0) of 24", x.validate(0, 0), 24);
        due.violation(x, 23, "f1.f2[2]", 1, 2, 2, 3, -1, 2);
        x.rule(1, false, 0, 0, 0, 1);
        due.is("validate(0, 0) of 25", x.validate(0, 0), -5);
        due.is("found()", x.found(), 0);
        due.is("visits()", x.visits(), 2);
    }

    private static void roomOfAStage() {
        due.about("ROOM in a stage of an order");
        int[] wanted = {24, -5};
        for (int more = 0; more < 2; more++) {
            RuleGraph x = broken(24 + more);
            x.order(0, 1);
            x.order(0, -1);
            due.is("validate(0, 0) of " + (24 + more) + " violations", x.validate(0, 0), wanted[more]);
        }
        for (int leaves = 1; leaves < 3; leaves++) {
            RuleGraph x = visited(leaves);
            x.order(0, -1);
            due.is("validate(0, 0) of " + (59 + leaves) + " visits", x.validate(0, 0), leaves == 1 ? 0 : -5);
            due.is("visits()", x.visits(), 60);
        }
    }

    private static void roomIsOfEachCall() {
        due.about("room is of one call");
        RuleGraph x = visited(2);
        RuleGraph y = ring();
        RuleGraph z = broken(25);
        for (int i = 0; i < 3; i++) {
            due.is("visits: too many", x.validate(0, 0), -5);
            due.is("visits: 40", x.validate(2, 0), 0);
            due.is("visits()", x.visits(), 40);
            due.is("checks: too many", y.validate(0, 0), -5);
            due.is("checks: 16", y.validate(2, 0), 0);
            due.is("visits()", y.visits(), 16);
            due.is("violations: too many", z.validate(0, 0), -5);
            due.is("violations: too many to look at", z.look(0, 2, 0), -5);
            due.is("violations: none in another group", z.validate(0, 1), 0);
        }
    }

    private static void validateOfNoObject() {
        due.about("promise 16: NONE, changing nothing, when there is no such object");
        bounds.range(Graphs::rich, "object", 0, 3, (x, o) -> x.validate(o, 1));
        bounds.range(Graphs::rich, "for a sequence, object", 0, 3, (x, o) -> x.validate(o, 6));
        bounds.range(RuleGraph::new, "without objects, object", 0, -1, (x, o) -> x.validate(o, 1));
    }

    private static void validateForNoGroup() {
        due.about("promise 16: NONE, changing nothing, when g is not 0 .. 7");
        bounds.range(Graphs::rich, "group", 0, 7, (x, g) -> x.validate(0, g));
        bounds.range(CheckBoundsTest::afterFailure, "after a failure, group", 0, 7, (x, g) -> x.validate(0, g));
    }

    /** The latest validate answered FIT, the latest but one had violations. */
    private static RuleGraph afterFailure() {
        RuleGraph x = Graphs.rich();
        due.is("validate(0, 5)", x.validate(0, 5), -4);
        return x;
    }

    private static void upToTheFirstGroupWithAViolation() {
        due.about("promise 16: up to the first group for which a violation was found");
        RuleGraph x = Graphs.fourFields();
        int[] row = {3, 0, 5, 1};
        for (int i = 0; i < 4; i++) {
            x.rule(0, false, 1, i + 1, 0, 1 << row[i]);
            x.member(7, row[i]);
        }
        for (int v = 0; v < 5; v++) {
            x.put(0, 0, v);
            due.is("validate(0, 7) at " + v, x.validate(0, 7), v == 4 ? 0 : 1);
            due.is("visits()", x.visits(), Math.min(v + 1, 4));
            due.is("violation(0, 3)", x.violation(0, 3), v == 4 ? -1 : v);
        }
        x.rule(0, true, 1, 0, 0, 1 << 5);
        x.put(0, 0, 1);
        due.is("FIT stands behind the violation", x.validate(0, 7), 1);
        x.put(0, 0, 2);
        due.is("FIT stands before the violation", x.validate(0, 7), -4);
    }

    private static void firstFailureThatIsMet() {
        due.about("promise 16: CYCLIC, ORDER, FIT or ROOM, the first that is met");
        RuleGraph x = broken(25);
        x.rule(2, true, 0, 0, 0, 1);
        due.is("ROOM before FIT", x.validate(0, 0), -5);
        due.is("ROOM before FIT, looked at", x.look(0, 2, 0), -5);
        x.clear(0, 2, true);
        due.is("FIT", x.validate(0, 0), -4);
        x.order(0, 1);
        due.is("ORDER before FIT", x.validate(0, 0), -3);
        x.member(6, 0);
        due.is("ORDER", x.validate(0, 6), -3);
        x.member(6, 6);
        due.is("CYCLIC before ORDER", x.validate(0, 6), -2);
    }

    private static void noneAfterAFailure() {
        due.about("promise 16: then there are none");
        int[] wanted = {-2, -3, -4, -5};
        for (int i = 0; i < 4; i++) {
            RuleGraph x = broken(i == 3 ? 25 : 3);
            x.validate(0, 0);
            if (i == 0) {
                x.member(6, 6);
            } else if (i == 1) {
                x.order(0, 1);
            } else if (i == 2) {
                x.rule(2, true, 0, 0, 0, 1);
            }
            due.is("validate", x.validate(0, i == 0 ? 6 : 0), wanted[i]);
            due.is("found()", x.found(), 0);
            for (int what = 0; what < 6; what++) {
                due.is("violation(0, " + what + ")", x.violation(0, what), -1);
            }
            due.is("way(0, -1)", x.way(0, -1), -1);
            due.is("way(0, 0)", x.way(0, 0), -1);
        }
    }

    private static void lookAtNoObject() {
        due.about("promise 17: NONE, changing nothing, when there is no such object");
        bounds.takenFor(Graphs::rich, "object", (x, o) -> x.look(o, 0, 1), 0, 1, 3);
        bounds.refusedFor(Graphs::rich, "object", (x, o) -> x.look(o, 0, 1), -1, 4, 9, 10, LEAST_INT, MOST_INT);
    }

    private static void lookAtNoField() {
        due.about("promise 17: NONE, changing nothing, when there is no such field");
        bounds.takenFor(Graphs::rich, "field", (x, f) -> x.look(1, f, 1), 0, 1, 2, 3, 4);
        bounds.refusedFor(Graphs::rich, "field", (x, f) -> x.look(1, f, 1), -1, 6, 13, 14, 32, LEAST_INT, MOST_INT);
    }

    private static void lookAtAFieldOfAnotherClass() {
        due.about("promise 17: NONE, changing nothing, when it has no such field");
        bounds.refusedFor(Graphs::rich, "of object 0, field", (x, f) -> x.look(0, f, 4), 4, 5);
        bounds.refusedFor(Graphs::rich, "of object 1, field", (x, f) -> x.look(1, f, 4), 5);
        bounds.refusedFor(Graphs::rich, "of object 2, field", (x, f) -> x.look(2, f, 1), 0, 1, 2, 3, 4);
        bounds.takenFor(Graphs::rich, "of object 2, field", (x, f) -> x.look(2, f, 1), 5);
    }

    private static void lookForNoGroup() {
        due.about("promise 17: NONE, changing nothing, when g is not 0 .. 5");
        bounds.range(Graphs::rich, "group", 0, 5, (x, g) -> x.look(0, 0, g));
        bounds.refused(Graphs::rich, "group 7", x -> x.look(0, 0, 7));
    }

    private static void lookIgnoresTheRest() {
        due.about("promise 17: orders, other fields and cascades do not matter");
        RuleGraph x = Graphs.net(2);
        x.put(0, 1, 1);
        x.rule(1, true, 0, 0, 0, 1);
        x.rule(0, false, 0, 0, 0, 1);
        x.order(0, 1);
        due.is("validate(0, 0)", x.validate(0, 0), -3);
        due.is("look(0, 2, 0)", x.look(0, 2, 0), 1);
        due.violation(x, 0, "f2", 0, 2, -1, 0, -1, 0);
        due.is("look(0, 0, 0)", x.look(0, 0, 0), 1);
        due.violation(x, 0, "f0", 0, 0, -1, 7, -1, -1);
        due.is("look(0, 1, 1)", x.look(0, 1, 1), 0);
        due.is("look(0, 1, 0)", x.look(0, 1, 0), -4);
        due.is("found()", x.found(), 0);
        x.extend(4, 5);
        due.is("look(1, 2, 4), by the closure", x.look(1, 2, 4), 2);
        due.violation(x, 1, "f2", 1, 2, -1, 5, -1, 0);
    }

    private static void foundBefore() {
        due.about("promise 18: 0 before");
        RuleGraph x = Graphs.net(1);
        due.is("found()", x.found(), 0);
        x.validate(1, 0);
        x.validate(0, 8);
        x.look(0, 3, 0);
        due.is("found() after NONE", x.found(), 0);
        x.validate(0, 0);
        due.is("found()", x.found(), 1);
    }

    private static void foundOfTheLatest() {
        due.about("promise 18: the latest validate or look that was not NONE");
        RuleGraph x = broken(24);
        x.object(0);
        x.validate(0, 0);
        due.is("of validate", x.found(), 24);
        x.validate(2, 0);
        x.look(0, 2, 6);
        due.is("not of NONE", x.found(), 24);
        x.look(0, 1, 0);
        due.is("of look", x.found(), 0);
        x.look(0, 2, 0);
        due.is("of look", x.found(), 24);
        x.validate(1, 0);
        due.is("of validate", x.found(), 0);
        x.rule(2, false, 3, 9, 9, 1);
        x.look(0, 2, 0);
        due.is("of a look with ROOM", x.found(), 0);
    }

    private static void visitsBefore() {
        due.about("promise 19: 0 before");
        RuleGraph x = Graphs.net(1);
        due.is("visits()", x.visits(), 0);
        x.validate(1, 0);
        x.validate(0, -1);
        due.is("visits() after NONE", x.visits(), 0);
        x.look(0, 2, 0);
        due.is("visits() after look", x.visits(), 0);
        x.validate(0, 0);
        due.is("visits()", x.visits(), 1);
    }

    private static void visitsOfTheLatestValidate() {
        due.about("promise 19: the latest validate that was not NONE");
        RuleGraph x = visited(1);
        x.validate(0, 0);
        due.is("of validate", x.visits(), 60);
        x.validate(7, 0);
        x.validate(0, 8);
        due.is("not of NONE", x.visits(), 60);
        x.look(0, 2, 0);
        due.is("not of look", x.visits(), 60);
        x.validate(5, 0);
        due.is("of validate", x.visits(), 1);
        x.validate(0, 6);
        due.is("of an empty sequence", x.visits(), 0);
    }

    private static void violationThatIsNone() {
        due.about("promise 20: NONE when there is no such violation");
        int[] counts = {1, 2, 24};
        for (int n : counts) {
            RuleGraph x = broken(n);
            x.validate(0, 0);
            int[] outside = {-1, n, n + 1, LEAST_INT, MOST_INT};
            for (int k : outside) {
                due.is("violation(" + k + ", 1) of " + n, x.violation(k, 1), -1);
            }
            due.is("violation(0, 1) of " + n, x.violation(0, 1), 2);
            due.is("the last of " + n, x.violation(n - 1, 1), 2);
        }
        RuleGraph x = broken(24);
        x.validate(0, 0);
        x.validate(0, 1);
        due.is("violation(0, 1) of 0", x.violation(0, 1), -1);
    }

    private static void violationOfNoFact() {
        due.about("promise 20: NONE when there is no such what");
        RuleGraph x = Graphs.net(1);
        x.put(0, 2, -9);
        x.validate(0, 3);
        int[] outside = {-1, 6, 7, LEAST_INT, MOST_INT};
        for (int what : outside) {
            due.is("violation(0, " + what + ")", x.violation(0, what), -1);
        }
        due.is("violation(0, 0)", x.violation(0, 0), 0);
        due.is("violation(0, 5)", x.violation(0, 5), -9);
    }

    private static void violationWithoutElementOrPart() {
        due.about("promise 20: -1 for the field, -1 for the rule itself, -1 for none");
        RuleGraph x = Graphs.fourFields();
        x.rule(1, false, 0, 0, 0, 1);
        x.validate(0, 0);
        due.violation(x, 0, "f1", 0, 1, -1, 0, -1, -1);
    }

    private static void violationOfAnElementOrPart() {
        due.about("promise 20: the element and the part, from 0");
        RuleGraph x = Graphs.fourFields();
        for (int p = 0; p < 3; p++) {
            x.part(2, 2, -p, 0);
            x.append(0, 2, p + 1);
        }
        x.rule(2, true, 4, 2, 0, 1);
        due.is("validate(0, 0)", x.validate(0, 0), 9);
        for (int k = 0; k < 9; k++) {
            due.violation(x, k, "f2[" + k / 3 + "]", 0, 2, k / 3, 0, k % 3, k / 3 + 1);
        }
    }

    private static void violationAsItWas() {
        due.about("promise 20: as it was when it was found");
        String before = Bounds.readings(Graphs.rich());
        RuleGraph x = Graphs.rich();
        x.put(0, 0, 77);
        x.put(0, 1, -1);
        x.clear(0, 2, true);
        x.append(0, 3, 0);
        x.append(1, 2, 5);
        x.convert(3, 1, 5);
        x.rule(0, false, 1, MOST_INT, 0, 63);
        x.part(1, 1, 9, 0);
        x.single(1, false);
        x.order(0, 0);
        x.extend(1, 5);
        String now = Bounds.readings(x);
        if (!now.equals(before)) {
            due.fail("now" + now + ", due is" + before);
        }
    }

    private static void wayToNoViolation() {
        due.about("promise 21: NONE when there is no such violation");
        int[] counts = {1, 2, 24};
        for (int n : counts) {
            RuleGraph x = broken(n);
            due.is("way(0, -1) before", x.way(0, -1), -1);
            x.validate(0, 0);
            int[] outside = {-1, n, n + 1, LEAST_INT, MOST_INT};
            for (int k : outside) {
                due.is("way(" + k + ", -1) of " + n, x.way(k, -1), -1);
                due.is("way(" + k + ", 0) of " + n, x.way(k, 0), -1);
            }
            due.is("way(0, 0) of " + n, x.way(0, 0), 'f');
            due.is("the last of " + n, x.way(n - 1, 0), 'f');
        }
    }

    private static void wayOfNoCharacter() {
        due.about("promise 21: NONE when there is no such character");
        RuleGraph x = Graphs.net(2);
        x.put(0, 1, 1);
        x.validate(0, 0);
        String[] ways = {"f2", "f1.f2"};
        for (int k = 0; k < 2; k++) {
            int length = ways[k].length();
            due.is("way(" + k + ", -1)", x.way(k, -1), length);
            for (int i = 0; i < length; i++) {
                due.is("way(" + k + ", " + i + ")", x.way(k, i), ways[k].charAt(i));
            }
            int[] outside = {-2, length, length + 1, LEAST_INT, MOST_INT};
            for (int i : outside) {
                due.is("way(" + k + ", " + i + ")", x.way(k, i), -1);
            }
        }
    }

    private static void wayWithPlacesAndDots() {
        due.about("promise 21: in a list also the place, a dot behind each field but the last");
        RuleGraph x = Graphs.net(2);
        x.field(0, 2);
        x.rule(3, true, 1, 1, 0, 1);
        x.rule(3, false, 3, 4, 4, 1);
        Graphs.lead(x, 0, 0, 0, 1);
        for (int i = 0; i < 3; i++) {
            x.append(1, 3, 0);
        }
        x.put(0, 2, 1);
        x.put(1, 2, 1);
        due.is("validate(0, 0)", x.validate(0, 0), 4);
        for (int k = 0; k < 3; k++) {
            due.violation(x, k, "f0[2].f3[" + k + "]", 1, 3, k, 6, -1, 0);
        }
        due.violation(x, 3, "f0[2].f3", 1, 3, -1, 7, -1, 3);
        x.put(0, 1, 1);
        x.clear(0, 0, true);
        due.is("validate(0, 0)", x.validate(0, 0), 4);
        due.violation(x, 2, "f1.f3[2]", 1, 3, 2, 6, -1, 0);
    }

    private static void wayOfTwoDigits() {
        due.about("promise 21: the number of a field");
        RuleGraph x = new RuleGraph();
        x.type(-1);
        x.object(0);
        for (int f = 0; f < 14; f++) {
            x.field(0, 1);
            x.cascade(f);
            x.rule(f, false, 0, 0, 0, 1);
        }
        x.object(0);
        for (int f = 0; f < 14; f++) {
            x.put(0, f, 0);
            x.put(1, f, 1);
        }
        for (int f = 0; f < 14; f++) {
            x.put(0, f, -1);
            x.put(1, f, 0);
            due.is("validate(1, 0)", x.validate(1, 0), 1);
            due.violation(x, 0, "f" + f + ".f" + f, 0, f, -1, f, -1, -1);
            x.put(0, f, 0);
            x.put(1, f, 1);
        }
    }

    /** Sixteen checks over lists of two digits, the violation on an element: 15 times 7 letters and 6. */
    private static void longestWay() {
        due.about("promise 21: the longest way");
        RuleGraph x = new RuleGraph();
        x.type(-1);
        for (int f = 0; f < 11; f++) {
            x.field(0, 0);
        }
        x.field(0, 3);
        x.field(0, 3);
        x.field(0, 2);
        x.cascade(11);
        x.cascade(12);
        x.convert(12, 0, 1);
        for (int o = 0; o < 8; o++) {
            x.object(0);
        }
        for (int o = 0; o < 7; o++) {
            x.append(o, 11, o);
            x.append(o, 11, o);
            x.append(o, 11, o + 1);
        }
        x.append(7, 12, 0);
        for (int i = 0; i < 3; i++) {
            x.append(7, 13, i);
        }
        x.rule(13, true, 2, 1, 0, 2);
        due.is("validate(0, 0)", x.validate(0, 0), 1);
        due.is("visits()", x.visits(), 16);
        String half = "f11[2].".repeat(7);
        due.violation(x, 0, half + "f12[0]." + half + "f13[2]", 7, 13, 2, 0, -1, 2);
        due.is("way(0, -1)", x.way(0, -1), 111);
        due.is("way(0, 110)", x.way(0, 110), ']');
        due.is("way(0, 111)", x.way(0, 111), -1);
    }

    private static void callsOfOneObject() {
        due.about("an object is used for at most 512 calls");
        RuleGraph x = ring(); // 42 calls
        x.put(8, 2, 0);
        int length = "f1.f1.f1.f1.f1.f3.f1.f1.f1.f1.f1.f1.f1.f1.f2".length();
        for (int call = 44; call < 512; call += 3) {
            due.is("call " + call, x.validate(3, 0), 2);
            due.is("call " + (call + 1), x.visits(), 15);
            due.is("call " + (call + 2), x.way(1, -1), length);
        }
        due.is("call 512", x.found(), 2);
    }
}
