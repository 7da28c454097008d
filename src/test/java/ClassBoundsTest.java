/** The ends of promises 1 (a new object), 2 (type), 3 (field), 9 (order), 10 (cascade), 11 (convert), 12 (object). */
public final class ClassBoundsTest {
    private static final Due due = new Due();
    private static final Bounds bounds = new Bounds(due);

    public static void main(String[] args) {
        newObject();
        type();
        field();
        order();
        cascade();
        convert();
        object();
        due.end();
    }

    private static void newObject() {
        noClasses();
        noFields();
        noObjects();
        noRules();
        noViolations();
        noGroupExtendsAnother();
        sequencesAreEmpty();
        ordersAreEmpty();
        compositionsAreEmpty();
    }

    private static void type() {
        sixClasses();
        parentIsNoneOrAClass();
    }

    private static void field() {
        fourteenFields();
        fieldOfNoClass();
        fieldOfNoKind();
        laterFieldIsAsNew();
    }

    private static void order() {
        orderOfNoClass();
        fourEntries();
        entryIsItselfOrAGroup();
    }

    private static void cascade() {
        cascadeOfNoField();
        cascadeOfIntOrInts();
        cascadedFromNowOn();
    }

    private static void convert() {
        convertOfNoField();
        convertFromNoGroup();
        convertToNoGroup();
        convertInPlaceOfBefore();
    }

    private static void object() {
        tenObjects();
        objectOfNoClass();
    }

    private static void noClasses() {
        due.about("promise 1: no classes");
        bounds.refused(RuleGraph::new, "type(0)", x -> x.type(0));
        bounds.refused(RuleGraph::new, "field(0, 0)", x -> x.field(0, 0));
        bounds.refused(RuleGraph::new, "object(0)", x -> x.object(0));
        bounds.refused(RuleGraph::new, "order(0, -1)", x -> x.order(0, -1));
        due.is("the first", new RuleGraph().type(-1), 0);
    }

    private static RuleGraph oneClass() {
        RuleGraph x = new RuleGraph();
        x.type(-1);
        return x;
    }

    private static void noFields() {
        due.about("promise 1: no fields");
        bounds.refused(ClassBoundsTest::oneClass, "rule on 0", x -> x.rule(0, false, 0, 0, 0, 1));
        bounds.refused(ClassBoundsTest::oneClass, "cascade(0)", x -> x.cascade(0));
        bounds.refused(ClassBoundsTest::oneClass, "convert(0, 0, 0)", x -> x.convert(0, 0, 0));
        due.is("the first", oneClass().field(0, 0), 0);
    }

    private static RuleGraph oneField(int kind) {
        RuleGraph x = oneClass();
        x.field(0, kind);
        return x;
    }

    private static void noObjects() {
        due.about("promise 1: no objects");
        bounds.refused(() -> oneField(0), "validate(0, 0)", x -> x.validate(0, 0));
        bounds.refused(() -> oneField(0), "look(0, 0, 0)", x -> x.look(0, 0, 0));
        bounds.refused(() -> oneField(0), "put(0, 0, 1)", x -> x.put(0, 0, 1));
        bounds.refused(() -> oneField(2), "append(0, 0, 1)", x -> x.append(0, 0, 1));
        bounds.refused(() -> oneField(2), "clear(0, 0, false)", x -> x.clear(0, 0, false));
        due.is("the first", oneClass().object(0), 0);
    }

    private static void noRules() {
        due.about("promise 1: no rules");
        for (int f = 0; f < 4; f++) {
            for (int g = 0; g < 6; g++) {
                due.is("look(0, " + f + ", " + g + ")", Graphs.fourFields().look(0, f, g), 0);
                due.is("validate(0, " + g + ")", Graphs.fourFields().validate(0, g), 0);
            }
        }
        due.is("the first", Graphs.fourFields().rule(0, false, 0, 0, 0, 1), 0);
    }

    private static void noViolations() {
        due.about("promise 1: no violations");
        RuleGraph x = Graphs.fourFields();
        x.rule(0, false, 1, 1, 0, 1);
        due.is("found()", x.found(), 0);
        due.is("violation(0, 0)", x.violation(0, 0), -1);
        due.is("violation(0, 5)", x.violation(0, 5), -1);
        due.is("way(0, -1)", x.way(0, -1), -1);
        due.is("way(0, 0)", x.way(0, 0), -1);
    }

    private static void noGroupExtendsAnother() {
        due.about("promise 1: no group extends another");
        for (int g = 0; g < 6; g++) {
            for (int h = 0; h < 6; h++) {
                RuleGraph x = Graphs.fourFields();
                x.rule(0, false, 1, 1, 0, 1 << h);
                due.is("rule of " + h + " for " + g, x.validate(0, g), g == h ? 1 : 0);
                due.is("extend(" + g + ", " + h + ")", x.extend(g, h) ? 1 : 0, g == h ? 0 : 1);
            }
        }
    }

    private static void sequencesAreEmpty() {
        due.about("promise 1: the rows of members are empty");
        for (int s = 6; s < 8; s++) {
            RuleGraph x = Graphs.net(1);
            due.is("validate(0, " + s + ")", x.validate(0, s), 0);
            due.is("visits()", x.visits(), 0);
        }
    }

    private static void ordersAreEmpty() {
        due.about("promise 1: the rows of entries are empty");
        RuleGraph x = new RuleGraph();
        for (int c = 0; c < 6; c++) {
            x.type(-1);
            x.object(c);
            due.is("validate(" + c + ", 0)", x.validate(c, 0), 0);
            due.is("visits()", x.visits(), 1);
        }
    }

    private static void compositionsAreEmpty() {
        due.about("promise 1: the rows of parts are empty");
        for (int c = 0; c < 3; c++) {
            RuleGraph x = Graphs.fourFields();
            x.rule(0, false, 4, c, 0, 1);
            due.is("validate(0, 0)", x.validate(0, 0), 0);
            x.part(c, 1, 1, 0);
            due.is("with a part", x.validate(0, 0), 1);
            due.violation(x, 0, "f0", 0, 0, -1, 0, 0, 0);
        }
    }

    private static RuleGraph classes(int count) {
        RuleGraph x = new RuleGraph();
        for (int c = 0; c < count; c++) {
            x.type(c - 1);
        }
        return x;
    }

    /** The last class is under class 1 and has an object, which tells whether it stays so. */
    private static RuleGraph richOfSixClasses() {
        RuleGraph x = Graphs.rich();
        for (int c = 3; c < 6; c++) {
            due.is("type(1)", x.type(1), c);
        }
        due.is("object(5)", x.object(5), 4);
        due.yes("put(4, 4, 9)", x.put(4, 4, 9));
        return x;
    }

    private static void sixClasses() {
        due.about("promise 2: NONE when there are 6");
        due.is("the sixth", classes(5).type(-1), 5);
        due.is("the sixth", classes(5).type(4), 5);
        due.is("the seventh", classes(6).type(-1), -1);
        bounds.refusedFor(ClassBoundsTest::richOfSixClasses, "the seventh, under", RuleGraph::type, -1, 0, 5);
    }

    private static void parentIsNoneOrAClass() {
        due.about("promise 2: NONE when parent is neither -1 nor a class");
        for (int n = 0; n < 6; n++) {
            int count = n;
            bounds.range(() -> classes(count), "of " + n + " classes parent", -1, n - 1, RuleGraph::type);
        }
        bounds.range(Graphs::rich, "parent", -1, 2, RuleGraph::type);
    }

    /** The fields stand on two classes, as it is their sum that is bounded; object 1 has a value in each. */
    private static RuleGraph fields(int count) {
        RuleGraph x = Graphs.rich();
        for (int f = 6; f < count; f++) {
            due.is("field", x.field(f % 2, 0), f);
            x.rule(f, false, 1, Integer.MAX_VALUE, 0, 2);
            due.yes("put(1, " + f + ", " + f + ")", x.put(1, f, f));
        }
        return x;
    }

    private static void fourteenFields() {
        due.about("promise 3: NONE when there are 14 fields");
        for (int kind = 0; kind < 4; kind++) {
            due.is("the fourteenth", fields(13).field(2, kind), 13);
        }
        bounds.refusedFor(() -> fields(14), "the fifteenth, of kind", (x, kind) -> x.field(2, kind), 0, 1, 2, 3);
    }

    private static void fieldOfNoClass() {
        due.about("promise 3: NONE when there is no such class");
        bounds.range(RuleGraph::new, "without classes, class", 0, -1, (x, c) -> x.field(c, 0));
        bounds.range(Graphs::rich, "class", 0, 2, (x, c) -> x.field(c, 0));
        bounds.range(() -> classes(6), "of 6 classes class", 0, 5, (x, c) -> x.field(c, 0));
    }

    private static void fieldOfNoKind() {
        due.about("promise 3: NONE when there is no such kind");
        bounds.range(Graphs::rich, "kind", 0, 3, (x, kind) -> x.field(1, kind));
    }

    private static void laterFieldIsAsNew() {
        due.about("promise 3: objects that have it then have it as new ones do");
        for (int kind = 0; kind < 4; kind++) {
            RuleGraph x = classes(2);
            x.type(-1);
            for (int c = 0; c < 3; c++) {
                x.object(c);
            }
            int f = x.field(0, kind);
            x.rule(f, false, kind == 0 ? 1 : 0, 1, 0, 1);
            for (int o = 0; o < 2; o++) {
                due.is("look(" + o + ", 0, 0) of kind " + kind, x.look(o, f, 0), 1);
                due.violation(x, 0, "f0", o, f, -1, 0, -1, kind == 0 ? 0 : -1);
            }
            due.is("an object of another class", x.look(2, f, 0), -1);
            x.object(1);
            due.is("a new object", x.look(3, f, 0), 1);
            due.violation(x, 0, "f0", 3, f, -1, 0, -1, kind == 0 ? 0 : -1);
        }
    }

    private static void orderOfNoClass() {
        due.about("promise 9: false when there is no such class");
        bounds.range(RuleGraph::new, "without classes, class", 0, -1, (x, c) -> x.order(c, -1));
        bounds.range(Graphs::rich, "class", 0, 2, (x, c) -> x.order(c, -1));
        bounds.range(() -> classes(6), "of 6 classes class", 0, 5, (x, c) -> x.order(c, -1));
    }

    /** Class 1 of the rich graph has two entries already. */
    private static RuleGraph entries(int count) {
        RuleGraph x = Graphs.rich();
        for (int i = 2; i < count; i++) {
            due.yes("order(1, " + i + ")", x.order(1, i));
        }
        return x;
    }

    private static void fourEntries() {
        due.about("promise 9: false when it has 4");
        due.yes("the fourth", entries(3).order(1, 5));
        bounds.refused(() -> entries(4), "the fifth, a group", x -> x.order(1, 5));
        bounds.refused(() -> entries(4), "the fifth, itself", x -> x.order(1, -1));
        due.yes("another class", entries(4).order(0, 5));
    }

    private static void entryIsItselfOrAGroup() {
        due.about("promise 9: false when g is not -1 .. 5");
        bounds.range(Graphs::rich, "entry", -1, 5, (x, g) -> x.order(1, g));
    }

    private static void cascadeOfNoField() {
        due.about("promise 10: false when there is no such field");
        bounds.range(() -> oneField(1), "field", 0, 0, RuleGraph::cascade);
        bounds.refusedFor(Graphs::rich, "field", RuleGraph::cascade, -1, 6);
    }

    private static void cascadeOfIntOrInts() {
        due.about("promise 10: false when it is INT or INTS");
        bounds.takenFor(Graphs::fourFields, "kind", RuleGraph::cascade, 1, 3);
        bounds.refusedFor(Graphs::fourFields, "kind", RuleGraph::cascade, 0, 2);
        bounds.refusedFor(Graphs::rich, "field", RuleGraph::cascade, 0, 2, 4, 5);
    }

    private static void cascadedFromNowOn() {
        due.about("promise 10: cascaded from now on");
        RuleGraph x = Graphs.fourFields();
        x.put(0, 1, x.object(0));
        x.validate(0, 0);
        due.is("visits() before", x.visits(), 1);
        due.yes("cascade(1)", x.cascade(1));
        due.yes("cascade(1) again", x.cascade(1));
        x.validate(0, 0);
        due.is("visits()", x.visits(), 2);
    }

    private static void convertOfNoField() {
        due.about("promise 11: false when there is no such field");
        bounds.range(ClassBoundsTest::oneClass, "without fields, field", 0, -1, (x, f) -> x.convert(f, 1, 2));
        bounds.range(Graphs::rich, "field", 0, 5, (x, f) -> x.convert(f, 1, 2));
    }

    private static void convertFromNoGroup() {
        due.about("promise 11: false when from is not 0 .. 5");
        bounds.range(Graphs::rich, "from", 0, 5, (x, from) -> x.convert(1, from, 2));
    }

    private static void convertToNoGroup() {
        due.about("promise 11: false when to is not 0 .. 5");
        bounds.range(Graphs::rich, "to", 0, 5, (x, to) -> x.convert(1, 0, to));
    }

    private static void convertInPlaceOfBefore() {
        due.about("promise 11: in place of what it made of from before");
        for (int from = 0; from < 6; from++) {
            RuleGraph x = Graphs.net(2);
            x.put(0, 2, 1);
            x.put(0, 1, 1);
            for (int to = 5; to >= 0; to--) {
                due.yes("convert(1, " + from + ", " + to + ")", x.convert(1, from, to));
                for (int g = 0; g < 6; g++) {
                    x.validate(0, g);
                    due.is(from + " to " + to + " at " + g, x.violation(0, 3), g == from ? to : g);
                }
            }
        }
    }

    private static RuleGraph objects(int count) {
        RuleGraph x = Graphs.rich();
        for (int o = 4; o < count; o++) {
            due.is("object", x.object(o % 3), o);
            x.put(o, 0, o);
        }
        return x;
    }

    private static void tenObjects() {
        due.about("promise 12: NONE when there are 10");
        for (int c = 0; c < 3; c++) {
            due.is("the tenth", objects(9).object(c), 9);
        }
        bounds.refusedFor(() -> objects(10), "the eleventh, of class", RuleGraph::object, 0, 1, 2);
    }

    private static void objectOfNoClass() {
        due.about("promise 12: NONE when there is no such class");
        bounds.range(RuleGraph::new, "without classes, class", 0, -1, RuleGraph::object);
        bounds.range(Graphs::rich, "class", 0, 2, RuleGraph::object);
        bounds.range(() -> classes(6), "of 6 classes class", 0, 5, RuleGraph::object);
    }
}
