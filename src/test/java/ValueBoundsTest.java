/** The ends of promises 13 (put), 14 (append) and 15 (clear). */
public final class ValueBoundsTest {
    private static final int LEAST_INT = Integer.MIN_VALUE;
    private static final int MOST_INT = Integer.MAX_VALUE;

    private static final Due due = new Due();
    private static final Bounds bounds = new Bounds(due);

    public static void main(String[] args) {
        put();
        append();
        clear();
        due.end();
    }

    private static void put() {
        putAnyInt();
        putAnyObjectOrNone();
        putOnNoObject();
        putOnNoField();
        putOnAFieldOfAnotherClass();
        putOnAList();
        putThatLeadsToNoObject();
    }

    private static void append() {
        appendAnyInt();
        appendToNone();
        appendOnNoObject();
        appendOnNoField();
        appendOnAFieldOfAnotherClass();
        appendOnNoList();
        appendToThreeElements();
        appendOfNoObject();
    }

    private static void clear() {
        clearToEmptyOrNone();
        clearWhatIsEmptyOrNone();
        clearOnNoObject();
        clearOnNoField();
        clearOnAFieldOfAnotherClass();
        clearOnNoList();
    }

    private static void putAnyInt() {
        due.about("promise 13: an INT becomes v");
        RuleGraph x = Graphs.fourFields();
        x.rule(0, false, 1, MOST_INT, 0, 1);
        x.rule(0, false, 2, LEAST_INT, 0, 2);
        int[] values = {LEAST_INT, LEAST_INT + 1, -2, -1, 0, 1, 10, MOST_INT - 1, MOST_INT};
        for (int v : values) {
            due.yes("put(0, 0, " + v + ")", x.put(0, 0, v));
            due.is("below the largest", x.look(0, 0, 0), v == MOST_INT ? 0 : 1);
            due.is("above the least", x.look(0, 0, 1), v == LEAST_INT ? 0 : 1);
            x.look(0, 0, v == MOST_INT ? 1 : 0);
            due.is("violation(0, 5)", x.violation(0, 5), v);
        }
    }

    /** The way tells which object a field leads to: it alone has an int of 0. */
    private static void putAnyObjectOrNone() {
        due.about("promise 13: a LINK leads to object v (-1: none)");
        RuleGraph x = Graphs.net(4);
        x.put(0, 2, 1);
        for (int v = 1; v < 4; v++) {
            due.yes("put(0, 1, " + v + ")", x.put(0, 1, v));
            due.is("validate(0, 0)", x.validate(0, 0), 1);
            due.violation(x, 0, "f1.f2", v, 2, -1, 0, -1, 0);
        }
        due.yes("put(0, 1, 0), itself", x.put(0, 1, 0));
        due.is("validate(0, 0)", x.validate(0, 0), 0);
        due.yes("put(0, 1, -1)", x.put(0, 1, -1));
        x.rule(1, false, 0, 0, 0, 1);
        due.is("validate(0, 0)", x.validate(0, 0), 1);
        due.violation(x, 0, "f1", 0, 1, -1, 6, -1, -1);
    }

    private static void putOnNoObject() {
        due.about("promise 13: false when there is no such object");
        bounds.takenFor(Graphs::rich, "object", (x, o) -> x.put(o, 0, 9), 0, 1, 3);
        bounds.refusedFor(Graphs::rich, "object", (x, o) -> x.put(o, 0, 9), -1, 4, 9, 10, LEAST_INT, MOST_INT);
    }

    private static void putOnNoField() {
        due.about("promise 13: false when there is no such field");
        bounds.takenFor(Graphs::rich, "field", (x, f) -> x.put(1, f, 2), 0, 1, 4);
        bounds.refusedFor(Graphs::rich, "field", (x, f) -> x.put(1, f, 2), -1, 6, 13, 14, LEAST_INT, MOST_INT);
    }

    private static void putOnAFieldOfAnotherClass() {
        due.about("promise 13: false when it has no such field");
        bounds.refused(Graphs::rich, "a field of a class under its own", x -> x.put(0, 4, 2));
        bounds.refused(Graphs::rich, "an INT of another class", x -> x.put(2, 0, 2));
        bounds.refused(Graphs::rich, "a LINK of another class", x -> x.put(2, 1, 2));
        bounds.taken(Graphs::rich, "a field of its parent", x -> x.put(1, 0, 2));
    }

    private static void putOnAList() {
        due.about("promise 13: false when that is a list");
        for (int o = 0; o < 2; o++) {
            int of = o;
            bounds.refusedFor(Graphs::rich, "INTS of " + o + ":", (x, v) -> x.put(of, 2, v), -1, 0, 1);
            bounds.refusedFor(Graphs::rich, "LINKS of " + o + ":", (x, v) -> x.put(of, 3, v), -1, 0, 1);
        }
    }

    private static void putThatLeadsToNoObject() {
        due.about("promise 13: false when it leads to no object");
        bounds.range(Graphs::rich, "a LINK to", -1, 3, (x, v) -> x.put(0, 1, v));
        bounds.range(ValueBoundsTest::unlinked, "a LINK that is none to", -1, 3, (x, v) -> x.put(1, 1, v));
    }

    private static RuleGraph unlinked() {
        RuleGraph x = Graphs.rich();
        x.put(1, 1, -1);
        return x;
    }

    private static void appendAnyInt() {
        due.about("promise 14: v behind the elements of INTS");
        int[][] rows = {{LEAST_INT, -1, 0}, {0, 1, MOST_INT - 1}, {-1, -1, -1}};
        for (int[] row : rows) {
            RuleGraph x = Graphs.fourFields();
            x.rule(2, true, 1, MOST_INT, 0, 1);
            for (int i = 0; i < 3; i++) {
                due.yes("append(0, 2, " + row[i] + ")", x.append(0, 2, row[i]));
                due.is("look(0, 2, 0)", x.look(0, 2, 0), i + 1);
                for (int k = 0; k <= i; k++) {
                    due.violation(x, k, "f2[" + k + "]", 0, 2, k, 0, -1, row[k]);
                }
            }
        }
    }

    private static void appendToNone() {
        due.about("promise 14: one that is none becomes a list of it");
        for (int f = 2; f < 4; f++) {
            RuleGraph x = Graphs.fourFields();
            x.rule(f, false, 0, 0, 0, 1);
            x.rule(f, false, 3, 9, 9, 1);
            due.is("none", x.look(0, f, 0), 1);
            due.violation(x, 0, "f" + f, 0, f, -1, 0, -1, -1);
            due.yes("append(0, " + f + ", 0)", x.append(0, f, 0));
            due.is("a list of one", x.look(0, f, 0), 1);
            due.violation(x, 0, "f" + f, 0, f, -1, 1, -1, 1);
        }
    }

    private static void appendOnNoObject() {
        due.about("promise 14: false when there is no such object");
        bounds.takenFor(Graphs::rich, "object", (x, o) -> x.append(o, 2, 1), 0, 1, 3);
        bounds.refusedFor(Graphs::rich, "object", (x, o) -> x.append(o, 2, 1), -1, 4, 9, 10, LEAST_INT, MOST_INT);
    }

    private static void appendOnNoField() {
        due.about("promise 14: false when there is no such field");
        bounds.takenFor(Graphs::rich, "field", (x, f) -> x.append(0, f, 1), 2, 3);
        bounds.refusedFor(Graphs::rich, "field", (x, f) -> x.append(0, f, 1), -1, 6, 13, 14, LEAST_INT, MOST_INT);
    }

    private static void appendOnAFieldOfAnotherClass() {
        due.about("promise 14: false when it has no such field");
        bounds.refusedFor(Graphs::rich, "INTS of another class, object", (x, o) -> x.append(o, 5, 1), 0, 1, 3);
        bounds.refusedFor(Graphs::rich, "a list of another class, field", (x, f) -> x.append(2, f, 1), 2, 3);
        bounds.taken(Graphs::rich, "a list of its parent", x -> x.append(1, 2, 1));
    }

    private static void appendOnNoList() {
        due.about("promise 14: false when that is no list");
        bounds.refusedFor(Graphs::rich, "to an INT:", (x, v) -> x.append(0, 0, v), -1, 0, 1);
        bounds.refusedFor(Graphs::rich, "to a LINK:", (x, v) -> x.append(0, 1, v), -1, 0, 1);
        bounds.refusedFor(ValueBoundsTest::unlinked, "to a LINK that is none:", (x, v) -> x.append(1, 1, v), -1, 0, 1);
    }

    /** The rich graph's lists of object 0 have two elements already. */
    private static RuleGraph full(int f) {
        RuleGraph x = Graphs.rich();
        due.yes("the third", x.append(0, f, 3));
        return x;
    }

    private static void appendToThreeElements() {
        due.about("promise 14: false when it has 3 elements");
        bounds.refusedFor(() -> full(2), "the fourth of INTS:", (x, v) -> x.append(0, 2, v), -1, 0, 1);
        bounds.refusedFor(() -> full(3), "the fourth of LINKS:", (x, v) -> x.append(0, 3, v), 0, 1, 2, 3);
        bounds.refused(Graphs::rich, "the fourth of another object", x -> x.append(2, 5, 4));
        bounds.taken(() -> full(2), "another field", x -> x.append(0, 3, 0));
        bounds.taken(() -> full(2), "another object", x -> x.append(3, 2, 0));
    }

    private static void appendOfNoObject() {
        due.about("promise 14: false when it is LINKS and v is no object");
        bounds.range(Graphs::rich, "to LINKS:", 0, 3, (x, v) -> x.append(0, 3, v));
        bounds.range(Graphs::rich, "to LINKS that are none:", 0, 3, (x, v) -> x.append(3, 3, v));
        bounds.takenFor(Graphs::rich, "to INTS:", (x, v) -> x.append(0, 2, v), -1, 4, LEAST_INT, MOST_INT);
    }

    private static RuleGraph sized(int f, int size) {
        RuleGraph x = Graphs.fourFields();
        x.rule(f, false, 0, 0, 0, 1);
        x.rule(f, false, 3, 9, 9, 1);
        for (int i = 0; i < size; i++) {
            x.append(0, f, 0);
        }
        return x;
    }

    private static void clearToEmptyOrNone() {
        due.about("promise 15: a list becomes empty (or none)");
        for (int f = 2; f < 4; f++) {
            for (int size = 1; size <= 3; size++) {
                becomes(sized(f, size), f, false);
                becomes(sized(f, size), f, true);
            }
        }
    }

    private static void becomes(RuleGraph x, int f, boolean none) {
        due.yes("clear(0, " + f + ", " + none + ")", x.clear(0, f, none));
        due.is("look(0, " + f + ", 0)", x.look(0, f, 0), 1);
        due.violation(x, 0, "f" + f, 0, f, -1, none ? 0 : 1, -1, none ? -1 : 0);
        for (int i = 1; i <= 3; i++) {
            due.yes("room for " + i, x.append(0, f, 0));
            x.look(0, f, 0);
            due.is("how many", x.violation(0, 5), i);
        }
        due.no("no room for the fourth", x.append(0, f, 0));
    }

    private static void clearWhatIsEmptyOrNone() {
        due.about("promise 15: a list that is empty or none already");
        for (int f = 2; f < 4; f++) {
            becomes(sized(f, 0), f, false);
            becomes(sized(f, 0), f, true);
            for (int to = 0; to < 2; to++) {
                RuleGraph x = sized(f, 0);
                x.clear(0, f, false);
                becomes(x, f, to == 1);
            }
        }
    }

    private static void clearOnNoObject() {
        due.about("promise 15: false when there is no such object");
        bounds.takenFor(Graphs::rich, "object", (x, o) -> x.clear(o, 2, true), 0, 1, 3);
        bounds.refusedFor(Graphs::rich, "object", (x, o) -> x.clear(o, 2, true), -1, 4, 9, 10, LEAST_INT, MOST_INT);
    }

    private static void clearOnNoField() {
        due.about("promise 15: false when it has no such field");
        bounds.takenFor(Graphs::rich, "field", (x, f) -> x.clear(0, f, true), 2, 3);
        bounds.refusedFor(Graphs::rich, "field", (x, f) -> x.clear(0, f, true), -1, 6, 13, 14, LEAST_INT, MOST_INT);
    }

    private static void clearOnAFieldOfAnotherClass() {
        due.about("promise 15: false when the field is of another class");
        bounds.refusedFor(Graphs::rich, "INTS of another class, object", (x, o) -> x.clear(o, 5, false), 0, 1, 3);
        bounds.refusedFor(Graphs::rich, "a list of another class, field", (x, f) -> x.clear(2, f, true), 2, 3);
        bounds.taken(Graphs::rich, "a list of its parent", x -> x.clear(1, 2, true));
    }

    private static void clearOnNoList() {
        due.about("promise 15: false when that is no list");
        for (int i = 0; i < 2; i++) {
            boolean none = i == 1;
            bounds.refusedFor(Graphs::rich, "field", (x, f) -> x.clear(0, f, none), 0, 1);
            bounds.refusedFor(Graphs::rich, "field", (x, f) -> x.clear(1, f, none), 0, 1, 4);
        }
    }
}
