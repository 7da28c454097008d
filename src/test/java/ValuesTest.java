/** Promises 13 (put), 14 (append) and 15 (clear). */
public final class ValuesTest {
    private static final Due due = new Due();

    public static void main(String[] args) {
        putInts();
        putLinks();
        putRefused();
        appendInts();
        appendLinks();
        appendRefused();
        clearLists();
        clearRefused();
        due.end();
    }

    /**
     * Class 0 has a field of each kind, the number being the kind; objects 0 and 1 are of it,
     * object 2 is of a class without fields. Every value of an object breaks a rule of group 0.
     */
    private static RuleGraph small() {
        RuleGraph x = new RuleGraph();
        x.type(-1);
        x.type(-1);
        for (int kind = 0; kind < 4; kind++) {
            x.field(0, kind);
        }
        x.object(0);
        x.object(0);
        x.object(1);
        x.rule(0, false, 1, Integer.MAX_VALUE, 0, 1);
        x.rule(2, true, 1, Integer.MAX_VALUE, 0, 1);
        x.rule(2, false, 3, 9, 9, 1);
        x.rule(3, false, 3, 9, 9, 1);
        x.rule(1, false, 0, 0, 0, 2);
        x.rule(2, false, 0, 0, 0, 2);
        x.rule(3, false, 0, 0, 0, 2);
        return x;
    }

    private static void putInts() {
        due.about("promise 13: put of an INT");
        RuleGraph x = small();
        int[] values = {5, -1, Integer.MIN_VALUE, 0};
        for (int v : values) {
            due.yes("put(0, 0, " + v + ")", x.put(0, 0, v));
            x.look(0, 0, 0);
            due.is("violation(0, 5)", x.violation(0, 5), v);
            x.look(1, 0, 0);
            due.is("violation(0, 5) of another object", x.violation(0, 5), 0);
        }
    }

    private static void putLinks() {
        due.about("promise 13: put of a LINK");
        RuleGraph x = small();
        x.cascade(1);
        due.yes("put(0, 1, 0)", x.put(0, 1, 0));
        due.is("look(0, 1, 1)", x.look(0, 1, 1), 0);
        due.yes("put(0, 1, 2), an object of any class", x.put(0, 1, 2));
        x.validate(0, 5);
        due.is("visits()", x.visits(), 2);
        due.yes("put(0, 1, -1)", x.put(0, 1, -1));
        due.is("look(0, 1, 1)", x.look(0, 1, 1), 1);
        x.validate(0, 5);
        due.is("visits()", x.visits(), 1);
    }

    private static void putRefused() {
        due.about("promise 13: put refused");
        RuleGraph x = small();
        x.put(0, 1, 1);
        due.no("no such object", x.put(3, 0, 1));
        due.no("no such object", x.put(-1, 0, 1));
        due.no("no such field", x.put(0, 4, 1));
        due.no("no such field", x.put(0, -1, 1));
        due.no("a field that it has not", x.put(2, 0, 1));
        due.no("INTS", x.put(0, 2, 1));
        due.no("LINKS", x.put(0, 3, 1));
        due.no("LINKS", x.put(0, 3, -1));
        due.no("no object", x.put(0, 1, 3));
        due.no("no object", x.put(0, 1, -2));
        due.is("nothing changed: the link", x.look(0, 1, 1), 0);
        due.is("nothing changed: the ints", x.look(0, 2, 1), 1);
        due.is("nothing changed: the links", x.look(0, 3, 1), 1);
    }

    private static void appendInts() {
        due.about("promise 14: append to INTS");
        RuleGraph x = small();
        due.is("none at first", x.look(0, 2, 1), 1);
        int[] values = {7, -1, 7};
        for (int i = 0; i < 3; i++) {
            due.yes("append", x.append(0, 2, values[i]));
            due.is("none no more", x.look(0, 2, 1), 0);
            due.is("look(0, 2, 0)", x.look(0, 2, 0), i + 2);
            for (int k = 0; k <= i; k++) {
                due.violation(x, k, "f2[" + k + "]", 0, 2, k, 1, -1, values[k]);
            }
            due.violation(x, i + 1, "f2", 0, 2, -1, 2, -1, i + 1);
        }
        due.no("the fourth", x.append(0, 2, 7));
        due.is("look(0, 2, 0)", x.look(0, 2, 0), 4);
        due.is("the other object has none", x.look(1, 2, 1), 1);
    }

    private static void appendLinks() {
        due.about("promise 14: append to LINKS");
        RuleGraph x = small();
        x.field(1, 0);
        x.rule(4, false, 1, 1, 0, 4);
        x.cascade(3);
        due.yes("append(0, 3, 2)", x.append(0, 3, 2));
        due.yes("append(0, 3, 1)", x.append(0, 3, 1));
        due.yes("append(0, 3, 2)", x.append(0, 3, 2));
        due.no("the fourth", x.append(0, 3, 2));
        due.is("validate(0, 2)", x.validate(0, 2), 2);
        due.is("visits()", x.visits(), 4);
        due.violation(x, 0, "f3[0].f4", 2, 4, -1, 7, -1, 0);
        due.violation(x, 1, "f3[2].f4", 2, 4, -1, 7, -1, 0);
    }

    private static void appendRefused() {
        due.about("promise 14: append refused");
        RuleGraph x = small();
        due.no("no such object", x.append(3, 2, 1));
        due.no("no such object", x.append(-1, 2, 1));
        due.no("no such field", x.append(0, 4, 1));
        due.no("no such field", x.append(0, -1, 1));
        due.no("a field that it has not", x.append(2, 2, 1));
        due.no("INT", x.append(0, 0, 1));
        due.no("LINK", x.append(0, 1, 1));
        due.no("no object", x.append(0, 3, 3));
        due.no("no object", x.append(0, 3, -1));
        due.is("still none", x.look(0, 3, 1), 1);
        due.is("still 0", x.look(0, 0, 0), 1);
        due.is("violation(0, 5)", x.violation(0, 5), 0);
    }

    private static void clearLists() {
        due.about("promise 15: clear");
        RuleGraph x = small();
        for (int f = 2; f < 4; f++) {
            x.append(0, f, 1);
            x.append(0, f, 0);
            due.yes("clear to empty", x.clear(0, f, false));
            due.is("there", x.look(0, f, 1), 0);
            due.is("empty", x.look(0, f, 0), 1);
            due.is("violation(0, 5)", x.violation(0, 5), 0);
            due.yes("clear to none", x.clear(0, f, true));
            due.is("none", x.look(0, f, 1), 1);
            due.is("violation(0, 5)", x.violation(0, 5), -1);
            due.is("none is of any size", x.look(0, f, 0), 0);
            due.yes("clear to empty from none", x.clear(0, f, false));
            due.is("there again", x.look(0, f, 1), 0);
            due.yes("append", x.append(0, f, 1));
            x.look(0, f, 0);
            due.is("one element", x.violation(x.found() - 1, 5), 1);
        }
    }

    private static void clearRefused() {
        due.about("promise 15: clear refused");
        RuleGraph x = small();
        x.put(0, 0, 5);
        x.put(0, 1, 1);
        due.no("no such object", x.clear(3, 2, true));
        due.no("no such object", x.clear(-1, 2, false));
        due.no("no such field", x.clear(0, 4, true));
        due.no("no such field", x.clear(0, -1, true));
        due.no("a field that it has not", x.clear(2, 2, false));
        due.no("INT", x.clear(0, 0, false));
        due.no("LINK", x.clear(0, 1, true));
        x.look(0, 0, 0);
        due.is("the int is as it was", x.violation(0, 5), 5);
        due.is("the link is as it was", x.look(0, 1, 1), 0);
    }
}
