/** Promises 2 (type), 3 (field), 9 (order), 10 (cascade), 11 (convert) and 12 (object). */
public final class ClassesTest {
    private static final int LEAST_INT = Integer.MIN_VALUE;
    private static final int MOST_INT = Integer.MAX_VALUE;

    private static final Due due = new Due();

    public static void main(String[] args) {
        classes();
        fieldsOfParents();
        fields();
        laterFields();
        orderCalls();
        orderIsGoodWithItselfOnce();
        orderIsOfItsClassAlone();
        cascadeCalls();
        convertCalls();
        conversionIsReplaced();
        objects();
        due.end();
    }

    private static void classes() {
        due.about("promise 2: type");
        RuleGraph x = new RuleGraph();
        due.is("type(-2)", x.type(-2), -1);
        due.is("type(0)", x.type(0), -1);
        due.is("type(-1)", x.type(-1), 0);
        due.is("type(1)", x.type(1), -1);
        due.is("type(least)", x.type(LEAST_INT), -1);
        due.is("type(most)", x.type(MOST_INT), -1);
        for (int c = 1; c < 6; c++) {
            due.is("type(" + (c - 1) + ")", x.type(c - 1), c);
        }
        due.is("the seventh", x.type(-1), -1);
        due.is("the seventh", x.type(5), -1);
    }

    private static void fieldsOfParents() {
        due.about("fields of parents");
        RuleGraph x = new RuleGraph();
        x.type(-1);
        x.type(0);
        x.type(1);
        x.type(0);
        x.type(-1);
        for (int c = 0; c < 5; c++) {
            x.field(c, 0);
            x.object(c);
        }
        String[] has = {"10000", "11000", "11100", "10010", "00001"};
        for (int o = 0; o < 5; o++) {
            for (int f = 0; f < 5; f++) {
                String call = "put(" + o + ", " + f + ", 1)";
                due.is(call, x.put(o, f, 1) ? 1 : 0, has[o].charAt(f) - '0');
            }
        }
    }

    private static void fields() {
        due.about("promise 3: field");
        RuleGraph x = new RuleGraph();
        x.type(-1);
        due.is("field(0, -1)", x.field(0, -1), -1);
        due.is("field(0, 4)", x.field(0, 4), -1);
        due.is("field(1, 0)", x.field(1, 0), -1);
        due.is("field(-1, 0)", x.field(-1, 0), -1);
        due.is("field(least, most)", x.field(LEAST_INT, MOST_INT), -1);
        for (int f = 0; f < 14; f++) {
            due.is("field(0, " + f % 4 + ")", x.field(0, f % 4), f);
        }
        due.is("the fifteenth", x.field(0, 0), -1);
        due.is("object(0)", x.object(0), 0);
        due.yes("put(0, 12, 7)", x.put(0, 12, 7));
        due.yes("put(0, 13, 0)", x.put(0, 13, 0));
        due.no("put(0, 14, 0)", x.put(0, 14, 0));
        due.no("put(0, -1, 0)", x.put(0, -1, 0));
        due.yes("append(0, 10, 7)", x.append(0, 10, 7));
    }

    private static void laterFields() {
        due.about("promise 3: objects have later fields as new ones do");
        RuleGraph x = new RuleGraph();
        x.type(-1);
        x.type(0);
        x.object(1);
        for (int kind = 0; kind < 4; kind++) {
            x.field(0, kind);
        }
        x.rule(0, false, 1, 1, 0, 1);
        x.rule(1, false, 0, 0, 0, 1);
        x.rule(2, false, 0, 0, 0, 1);
        x.rule(3, false, 0, 0, 0, 1);
        x.object(1);
        for (int o = 0; o < 2; o++) {
            due.is("validate(" + o + ", 0)", x.validate(o, 0), 4);
            due.violation(x, 0, "f0", o, 0, -1, 0, -1, 0);
            due.violation(x, 1, "f1", o, 1, -1, 1, -1, -1);
            due.violation(x, 2, "f2", o, 2, -1, 2, -1, -1);
            due.violation(x, 3, "f3", o, 3, -1, 3, -1, -1);
        }
    }

    private static void orderCalls() {
        due.about("promise 9: order");
        RuleGraph x = new RuleGraph();
        due.no("order(0, 0)", x.order(0, 0));
        x.type(-1);
        due.no("order(0, -2)", x.order(0, -2));
        due.no("order(0, 6)", x.order(0, 6));
        due.no("order(1, 0)", x.order(1, 0));
        due.no("order(-1, 0)", x.order(-1, 0));
        due.yes("order(0, 5)", x.order(0, 5));
        due.yes("order(0, -1)", x.order(0, -1));
        due.yes("order(0, 5)", x.order(0, 5));
        due.yes("order(0, 1)", x.order(0, 1));
        due.no("the fifth", x.order(0, 1));
        x.object(0);
        due.is("validate(0, 0)", x.validate(0, 0), 0);
        due.is("visits()", x.visits(), 1);
    }

    private static void orderIsGoodWithItselfOnce() {
        due.about("a good order");
        int[][] rows = {{1}, {0}, {-1}, {1, -1}, {-1, -1}, {-1, 0}, {0, -1}, {1, 2, 3, -1}, {-1, 1, 1, 1}};
        int[] wanted = {-3, -3, 0, 0, -3, -3, -3, 0, 0};
        for (int i = 0; i < rows.length; i++) {
            RuleGraph x = new RuleGraph();
            x.type(-1);
            x.object(0);
            for (int g : rows[i]) {
                x.order(0, g);
            }
            due.is("validate(0, 0) of row " + i, x.validate(0, 0), wanted[i]);
            due.is("visits()", x.visits(), 1);
            due.is("validate(0, 1) of row " + i, x.validate(0, 1), 0);
        }
    }

    private static void orderIsOfItsClassAlone() {
        due.about("orders are not handed on");
        RuleGraph x = new RuleGraph();
        x.type(-1);
        x.type(0);
        x.order(0, 1);
        x.object(0);
        x.object(1);
        due.is("validate(0, 0)", x.validate(0, 0), -3);
        due.is("validate(1, 0)", x.validate(1, 0), 0);
    }

    private static void cascadeCalls() {
        due.about("promise 10: cascade");
        RuleGraph x = new RuleGraph();
        due.no("cascade(0)", x.cascade(0));
        x.type(-1);
        for (int kind = 0; kind < 4; kind++) {
            x.field(0, kind);
        }
        due.no("cascade of an INT", x.cascade(0));
        due.no("cascade of INTS", x.cascade(2));
        due.no("cascade(-1)", x.cascade(-1));
        due.no("cascade(4)", x.cascade(4));
        x.object(0);
        x.object(0);
        x.put(0, 1, 1);
        x.append(0, 3, 1);
        x.append(0, 3, 1);
        due.is("validate(0, 0)", x.validate(0, 0), 0);
        due.is("visits() before", x.visits(), 1);
        due.yes("cascade of a LINK", x.cascade(1));
        x.validate(0, 0);
        due.is("visits() of a LINK", x.visits(), 2);
        due.yes("cascade of LINKS", x.cascade(3));
        due.yes("cascade again", x.cascade(3));
        x.validate(0, 0);
        due.is("visits() of both", x.visits(), 4);
        x.put(0, 1, -1);
        x.clear(0, 3, true);
        x.validate(0, 0);
        due.is("visits() of none", x.visits(), 1);
    }

    private static void convertCalls() {
        due.about("promise 11: convert");
        RuleGraph x = new RuleGraph();
        due.no("convert(0, 0, 1)", x.convert(0, 0, 1));
        x.type(-1);
        for (int kind = 0; kind < 4; kind++) {
            x.field(0, kind);
            due.yes("convert of kind " + kind, x.convert(kind, 5, 0));
            due.yes("convert to itself", x.convert(kind, 4, 4));
        }
        due.no("convert(4, 0, 1)", x.convert(4, 0, 1));
        due.no("convert(-1, 0, 1)", x.convert(-1, 0, 1));
        due.no("convert(1, -1, 1)", x.convert(1, -1, 1));
        due.no("convert(1, 6, 1)", x.convert(1, 6, 1));
        due.no("convert(1, 0, -1)", x.convert(1, 0, -1));
        due.no("convert(1, 0, 6)", x.convert(1, 0, 6));
    }

    /** Object 0 leads to object 1, which breaks a rule of each group: rule g of group g. */
    private static RuleGraph linked() {
        RuleGraph x = new RuleGraph();
        x.type(-1);
        x.type(-1);
        x.field(0, 1);
        x.field(1, 0);
        x.cascade(0);
        for (int g = 0; g < 6; g++) {
            x.rule(1, false, 1, 1, 0, 1 << g);
        }
        x.object(0);
        x.object(1);
        x.put(0, 0, 1);
        return x;
    }

    private static void conversionIsReplaced() {
        due.about("promise 11: conversions");
        RuleGraph x = linked();
        for (int g = 0; g < 6; g++) {
            due.is("validate(0, " + g + ")", x.validate(0, g), 1);
            due.violation(x, 0, "f0.f1", 1, 1, -1, g, -1, 0);
        }
        x.convert(0, 2, 3);
        x.convert(0, 3, 5);
        x.validate(0, 2);
        due.is("2 becomes 3, not 5", x.violation(0, 3), 3);
        x.convert(0, 2, 4);
        x.validate(0, 2);
        due.is("2 becomes 4 in place of 3", x.violation(0, 3), 4);
        x.validate(0, 3);
        due.is("3 becomes 5", x.violation(0, 3), 5);
        x.convert(0, 2, 2);
        x.validate(0, 2);
        due.is("2 becomes 2", x.violation(0, 3), 2);
        due.about("a conversion is of the stage's group, not of its closure");
        x.extend(1, 3);
        due.is("validate(0, 1)", x.validate(0, 1), 2);
        due.is("violation(0, 3)", x.violation(0, 3), 1);
        due.is("violation(1, 3)", x.violation(1, 3), 3);
    }

    private static void objects() {
        due.about("promise 12: object");
        RuleGraph x = new RuleGraph();
        due.is("object(0)", x.object(0), -1);
        x.type(-1);
        x.type(0);
        due.is("object(-1)", x.object(-1), -1);
        due.is("object(2)", x.object(2), -1);
        for (int o = 0; o < 10; o++) {
            due.is("object", x.object(o % 2), o);
        }
        due.is("the eleventh", x.object(0), -1);
        due.is("validate(9, 0)", x.validate(9, 0), 0);
        due.is("validate(10, 0)", x.validate(10, 0), -1);
    }
}
