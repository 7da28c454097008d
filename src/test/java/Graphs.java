/** Graphs that several tests start from. */
final class Graphs {
    private static final int MOST_INT = Integer.MAX_VALUE;

    private Graphs() {
    }

    /** One class with a field of each kind, the number being the kind, and one object. */
    static RuleGraph fourFields() {
        RuleGraph x = new RuleGraph();
        x.type(-1);
        for (int kind = 0; kind < 4; kind++) {
            x.field(0, kind);
        }
        x.object(0);
        return x;
    }

    /**
     * A class with LINKS f0 (cascaded), LINK f1 (cascaded) and INT f2, and as many objects of it;
     * rule g, of group g, asks that f2 is at least 1.
     */
    static RuleGraph net(int objects) {
        RuleGraph x = new RuleGraph();
        x.type(-1);
        x.field(0, 3);
        x.field(0, 1);
        x.field(0, 0);
        x.cascade(0);
        x.cascade(1);
        for (int g = 0; g < 6; g++) {
            x.rule(2, false, 1, 1, 0, 1 << g);
        }
        for (int o = 0; o < objects; o++) {
            x.object(0);
        }
        return x;
    }

    /** Puts the targets into list f0 of an object of a net. */
    static void lead(RuleGraph x, int o, int... targets) {
        for (int target : targets) {
            x.append(o, 0, target);
        }
    }

    /**
     * Something of everything, so that what a call changes can be seen by a later one: classes 0,
     * 1 under it, and 2; f0 to f3 of class 0 by kind, INT f4 of class 1, INTS f5 of class 2;
     * objects 0 and 3 of class 0, 1 of class 1, 2 of class 2; and what the latest validate found.
     */
    static RuleGraph rich() {
        RuleGraph x = new RuleGraph();
        x.type(-1);
        x.type(0);
        x.type(-1);
        for (int kind = 0; kind < 4; kind++) {
            x.field(0, kind);
        }
        x.field(1, 0);
        x.field(2, 2);
        makeRules(x);
        makeRows(x);
        x.object(0);
        x.object(1);
        x.object(2);
        x.object(0);
        makeValues(x);
        x.validate(0, 1);
        return x;
    }

    /** Most of these break whatever the value is, so that every value is told by a violation. */
    private static void makeRules(RuleGraph x) {
        x.rule(0, false, 1, MOST_INT, 0, 1 + 2);
        x.rule(2, true, 1, MOST_INT, 0, 2);
        x.rule(2, false, 3, 9, 9, 4);
        x.rule(3, false, 3, 9, 9, 4 + 8);
        x.rule(1, false, 0, 0, 0, 8);
        x.rule(2, false, 0, 0, 0, 8);
        x.rule(3, false, 0, 0, 0, 8);
        x.rule(4, false, 4, 0, 0, 16);
        x.rule(5, true, 4, 1, 0, 16);
        x.rule(0, true, 1, 0, 0, 32);
        x.part(0, 1, MOST_INT, 0);
        x.part(0, 1, 1, 0);
        x.part(1, 2, 0, 0);
        x.part(1, 1, MOST_INT, 0);
        x.single(1, true);
    }

    private static void makeRows(RuleGraph x) {
        x.cascade(1);
        x.cascade(3);
        x.convert(1, 0, 1);
        x.convert(3, 2, 4);
        x.extend(1, 3);
        x.member(6, 4);
        x.member(6, 7);
        x.member(7, 0);
        x.member(7, 1);
        x.order(1, 2);
        x.order(1, -1);
        x.order(2, 3);
    }

    private static void makeValues(RuleGraph x) {
        x.put(0, 0, 5);
        x.put(0, 1, 1);
        x.append(0, 2, 7);
        x.append(0, 2, 8);
        x.append(0, 3, 1);
        x.append(0, 3, 3);
        x.put(1, 0, -1);
        x.put(1, 4, -6);
        x.put(1, 1, 3);
        x.clear(1, 2, false);
        x.append(2, 5, 1);
        x.append(2, 5, 0);
        x.append(2, 5, 2);
        x.put(3, 1, 2);
    }
}
