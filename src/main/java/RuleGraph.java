/**
 * Checks objects by rules that stand on the fields of their classes: rules belong to groups, go on
 * to the objects that fields lead to, and what breaks them is listed with the way on which it was
 * found.
 *
 * <p>Every row is made with its full room in a constructor and used again, because all calls of a
 * run share one small room for objects.
 */
public final class RuleGraph {
    public static final int NONE = -1;
    public static final int CYCLIC = -2;
    public static final int ORDER = -3;
    public static final int FIT = -4;
    public static final int ROOM = -5;

    /** What the steps of a check answer when none of the failures above was met. */
    private static final int FINE = 0;

    private static final int MOST_CLASSES = 6;
    private static final int MOST_FIELDS = 14;
    private static final int MOST_OBJECTS = 10;
    private static final int MOST_ELEMENTS = 3;
    private static final int MOST_RULES = 24;
    private static final int MOST_PARTS = 3;
    private static final int MOST_MEMBERS = 4;
    private static final int MOST_ENTRIES = 4;
    private static final int MOST_VISITS = 60;
    private static final int MOST_OPEN = 16;
    private static final int MOST_VIOLATIONS = 24;

    private static final int COMPOSITIONS = 3;
    private static final int GROUPS = 6;
    private static final int SEQUENCES = 2;
    private static final int ALL_GROUPS = (1 << GROUPS) - 1;
    private static final int DEFAULT = 0;
    private static final int ITSELF = -1;

    private static final int INT = 0;
    private static final int LINK = 1;
    private static final int INTS = 2;
    private static final int LINKS = 3;

    private static final int PRESENT = 0;
    private static final int LEAST = 1;
    private static final int MOST = 2;
    private static final int SIZE = 3;
    private static final int COMPOSED = 4;

    private static final int FACTS = 6;
    /** A step of a way is one int, field * PLACES + place + 1; the place is NONE outside a list. */
    private static final int PLACES = MOST_ELEMENTS + 1;
    /** The longest step reads like "f13[2]." */
    private static final int STEP_LETTERS = 7;

    private final Shape shape;
    private final Rulebook rulebook;
    private final Groups groups;
    private final Store store;
    private final Report report;
    private final Checker checker;

    public RuleGraph() {
        shape = new Shape();
        rulebook = new Rulebook();
        groups = new Groups();
        store = new Store();
        report = new Report();
        checker = new Checker(shape, rulebook, groups, store, report);
    }

    public int type(int parent) {
        if (parent != NONE && !shape.isClass(parent)) {
            return NONE;
        }
        return shape.addClass(parent);
    }

    public int field(int c, int kind) {
        if (!shape.isClass(c) || kind < INT || kind > LINKS) {
            return NONE;
        }
        int f = shape.addField(c, kind);
        if (f != NONE) {
            store.startField(f, kind == INT ? 0 : NONE);
        }
        return f;
    }

    public int rule(int field, boolean element, int kind, int a, int b, int groups) {
        if (!shape.isField(field) || kind < PRESENT || kind > COMPOSED) {
            return NONE;
        }
        if (kind == COMPOSED && !rulebook.isComposition(a)) {
            return NONE;
        }
        if (groups < 1 || groups > ALL_GROUPS) {
            return NONE;
        }
        Composition demands = kind == COMPOSED ? rulebook.compositions[a] : rulebook.alone(kind, a, b);
        return rulebook.addRule(field, element, demands, groups);
    }

    public boolean part(int c, int kind, int a, int b) {
        if (!rulebook.isComposition(c) || kind < PRESENT || kind > SIZE) {
            return false;
        }
        return rulebook.compositions[c].addPart(kind, a, b);
    }

    public boolean single(int c, boolean on) {
        if (!rulebook.isComposition(c)) {
            return false;
        }
        rulebook.compositions[c].isSingle = on;
        return true;
    }

    public boolean extend(int g, int h) {
        if (!groups.isGroup(g) || !groups.isGroup(h) || groups.reaches(h, g)) {
            return false;
        }
        groups.widen(g, h);
        return true;
    }

    public boolean member(int s, int g) {
        if (!groups.isSequence(s) || !groups.isGroup(g) && !groups.isSequence(g)) {
            return false;
        }
        return groups.sequences[s - GROUPS].add(g);
    }

    public boolean order(int c, int g) {
        if (!shape.isClass(c) || g != ITSELF && !groups.isGroup(g)) {
            return false;
        }
        return shape.orders[c].add(g);
    }

    public boolean cascade(int field) {
        if (!shape.isField(field) || !shape.leadsToObjects(field)) {
            return false;
        }
        shape.cascaded[field] = true;
        return true;
    }

    public boolean convert(int field, int from, int to) {
        if (!shape.isField(field) || !groups.isGroup(from) || !groups.isGroup(to)) {
            return false;
        }
        shape.conversions[field][from] = to;
        return true;
    }

    public int object(int c) {
        if (!shape.isClass(c)) {
            return NONE;
        }
        return store.addObject(c);
    }

    public boolean put(int o, int f, int v) {
        if (!hasField(o, f) || shape.isList(f)) {
            return false;
        }
        if (shape.kinds[f] == LINK && v != NONE && !store.isObject(v)) {
            return false;
        }
        store.values[o][f] = v;
        return true;
    }

    public boolean append(int o, int f, int v) {
        if (!hasField(o, f) || !shape.isList(f)) {
            return false;
        }
        if (shape.kinds[f] == LINKS && !store.isObject(v)) {
            return false;
        }
        return store.addElement(o, f, v);
    }

    public boolean clear(int o, int f, boolean none) {
        if (!hasField(o, f) || !shape.isList(f)) {
            return false;
        }
        store.values[o][f] = none ? NONE : 0;
        return true;
    }

    public int validate(int o, int g) {
        if (!store.isObject(o) || !groups.isGroup(g) && !groups.isSequence(g)) {
            return NONE;
        }
        report.count = 0;
        checker.visitCount = 0;
        Row flat = groups.flat;
        flat.size = 0;
        int outcome = groups.flatten(g, 0) ? FINE : CYCLIC;
        for (int i = 0; i < flat.size && outcome == FINE && report.count == 0; i++) {
            outcome = checker.check(o, flat.items[i]);
        }
        return report.close(outcome);
    }

    public int look(int o, int f, int g) {
        if (!hasField(o, f) || !groups.isGroup(g)) {
            return NONE;
        }
        report.count = 0;
        return report.close(checker.tryRules(o, 1 << f, g));
    }

    public int found() {
        return report.count;
    }

    public int visits() {
        return checker.visitCount;
    }

    public int violation(int k, int what) {
        if (!report.holds(k) || what < 0 || what >= FACTS) {
            return NONE;
        }
        return report.facts[k][what];
    }

    public int way(int k, int i) {
        if (!report.holds(k)) {
            return NONE;
        }
        report.spell(k);
        if (i == -1) {
            return report.textLength;
        }
        if (i < 0 || i >= report.textLength) {
            return NONE;
        }
        return report.text[i];
    }

    private boolean hasField(int o, int f) {
        return store.isObject(o) && shape.isField(f) && shape.owns(store.classes[o], f);
    }

    /** A row of ints that takes no more than the room it was made with. */
    private static final class Row {
        final int[] items;
        int size;

        Row(int room) {
            items = new int[room];
            size = 0;
        }

        boolean add(int item) {
            if (size >= items.length) {
                return false;
            }
            items[size] = item;
            size++;
            return true;
        }
    }

    /** The classes with their orders, and the fields with their conversions. */
    private static final class Shape {
        int classCount;
        /** Bit p of lines[c]: class p is c or above c. */
        final int[] lines;
        final Row[] orders;
        int fieldCount;
        final int[] owners;
        final int[] kinds;
        final boolean[] cascaded;
        final int[][] conversions;

        Shape() {
            classCount = 0;
            lines = new int[MOST_CLASSES];
            orders = new Row[MOST_CLASSES];
            for (int c = 0; c < MOST_CLASSES; c++) {
                orders[c] = new Row(MOST_ENTRIES);
            }
            fieldCount = 0;
            owners = new int[MOST_FIELDS];
            kinds = new int[MOST_FIELDS];
            cascaded = new boolean[MOST_FIELDS];
            conversions = new int[MOST_FIELDS][GROUPS];
        }

        boolean isClass(int c) {
            return c >= 0 && c < classCount;
        }

        boolean isField(int f) {
            return f >= 0 && f < fieldCount;
        }

        boolean isList(int f) {
            return kinds[f] == INTS || kinds[f] == LINKS;
        }

        boolean leadsToObjects(int f) {
            return kinds[f] == LINK || kinds[f] == LINKS;
        }

        boolean owns(int c, int f) {
            return (lines[c] >> owners[f] & 1) != 0;
        }

        /** The fields of a class as bits, so that a check of all of them and of one look alike. */
        int fieldsOf(int c) {
            int fields = 0;
            for (int f = 0; f < fieldCount; f++) {
                if (owns(c, f)) {
                    fields |= 1 << f;
                }
            }
            return fields;
        }

        int addClass(int parent) {
            if (classCount >= MOST_CLASSES) {
                return NONE;
            }
            int c = classCount;
            lines[c] = 1 << c | (parent == NONE ? 0 : lines[parent]);
            classCount++;
            return c;
        }

        int addField(int c, int kind) {
            if (fieldCount >= MOST_FIELDS) {
                return NONE;
            }
            int f = fieldCount;
            owners[f] = c;
            kinds[f] = kind;
            // A group without a conversion goes on as itself.
            for (int g = 0; g < GROUPS; g++) {
                conversions[f][g] = g;
            }
            fieldCount++;
            return f;
        }
    }

    /** What a rule or a part of a composition asks of one value. */
    private static final class Demand {
        final int kind;
        final int a;
        final int b;

        Demand(int kind, int a, int b) {
            this.kind = kind;
            this.a = a;
            this.b = b;
        }

        boolean fits(int fieldKind, boolean element) {
            switch (kind) {
                case PRESENT:
                    return element ? fieldKind == LINKS : fieldKind != INT;
                case LEAST:
                case MOST:
                    return fieldKind == (element ? INTS : INT);
                default:
                    return !element && (fieldKind == INTS || fieldKind == LINKS);
            }
        }

        /** The value is an int, an object, or the size of a list; NONE is none where the demand fits. */
        boolean isBrokenBy(int value) {
            switch (kind) {
                case PRESENT:
                    return value == NONE;
                case LEAST:
                    return value < a;
                case MOST:
                    return value > a;
                default:
                    return value != NONE && (value < a || value > b);
            }
        }
    }

    private static final class Composition {
        final Demand[] parts;
        int size;
        boolean isSingle;

        Composition(int room) {
            parts = new Demand[room];
            size = 0;
            isSingle = false;
        }

        boolean addPart(int kind, int a, int b) {
            if (size >= parts.length) {
                return false;
            }
            parts[size] = new Demand(kind, a, b);
            size++;
            return true;
        }

        boolean fits(int fieldKind, boolean element) {
            for (int p = 0; p < size; p++) {
                if (!parts[p].fits(fieldKind, element)) {
                    return false;
                }
            }
            return true;
        }
    }

    private static final class Rule {
        final int field;
        final boolean element;
        final Composition demands;
        final int groups;

        Rule(int field, boolean element, Composition demands, int groups) {
            this.field = field;
            this.element = element;
            this.demands = demands;
            this.groups = groups;
        }
    }

    private static final class Rulebook {
        final Rule[] rules;
        int ruleCount;
        final Composition[] compositions;

        Rulebook() {
            rules = new Rule[MOST_RULES];
            ruleCount = 0;
            compositions = new Composition[COMPOSITIONS];
            for (int c = 0; c < COMPOSITIONS; c++) {
                compositions[c] = new Composition(MOST_PARTS);
            }
        }

        boolean isComposition(int c) {
            return c >= 0 && c < COMPOSITIONS;
        }

        /** A plain rule breaks in its own name, just as a single composition of one part does. */
        Composition alone(int kind, int a, int b) {
            Composition demands = new Composition(1);
            demands.addPart(kind, a, b);
            demands.isSingle = true;
            return demands;
        }

        int addRule(int field, boolean element, Composition demands, int groups) {
            if (ruleCount >= MOST_RULES) {
                return NONE;
            }
            rules[ruleCount] = new Rule(field, element, demands, groups);
            ruleCount++;
            return ruleCount - 1;
        }
    }

    private static final class Groups {
        /** Bit h of closures[g]: group h is in the closure of g. */
        final int[] closures;
        final Row[] sequences;
        final Row flat;

        Groups() {
            closures = new int[GROUPS];
            for (int g = 0; g < GROUPS; g++) {
                closures[g] = 1 << g;
            }
            sequences = new Row[SEQUENCES];
            for (int s = 0; s < SEQUENCES; s++) {
                sequences[s] = new Row(MOST_MEMBERS);
            }
            flat = new Row(MOST_MEMBERS * MOST_MEMBERS);
        }

        boolean isGroup(int g) {
            return g >= 0 && g < GROUPS;
        }

        boolean isSequence(int s) {
            return s >= GROUPS && s < GROUPS + SEQUENCES;
        }

        boolean reaches(int g, int h) {
            return (closures[g] >> h & 1) != 0;
        }

        void widen(int g, int h) {
            for (int x = 0; x < GROUPS; x++) {
                if (reaches(x, g)) {
                    closures[x] |= closures[h];
                }
            }
        }

        /** Puts what g is flat behind the flat row; false if g is cyclic. */
        private boolean flatten(int g, int depth) {
            if (g < GROUPS) {
                return flat.add(g);
            }
            // A sequence inside as many as there are must have come upon one of them again.
            if (depth >= SEQUENCES) {
                return false;
            }
            Row members = sequences[g - GROUPS];
            for (int i = 0; i < members.size; i++) {
                if (!flatten(members.items[i], depth + 1)) {
                    return false;
                }
            }
            return true;
        }
    }

    /** The objects with what their fields hold. */
    private static final class Store {
        int objectCount;
        final int[] classes;
        /** By object and field: the int, the linked object, or the size of the list (NONE: none). */
        final int[][] values;
        final int[][] elements;

        Store() {
            objectCount = 0;
            classes = new int[MOST_OBJECTS];
            values = new int[MOST_OBJECTS][MOST_FIELDS];
            elements = new int[MOST_OBJECTS][MOST_FIELDS * MOST_ELEMENTS];
        }

        boolean isObject(int o) {
            return o >= 0 && o < objectCount;
        }

        /** Objects that are not made yet start too, so that making one needs no start of its own. */
        void startField(int f, int value) {
            for (int o = 0; o < MOST_OBJECTS; o++) {
                values[o][f] = value;
            }
        }

        int addObject(int c) {
            if (objectCount >= MOST_OBJECTS) {
                return NONE;
            }
            classes[objectCount] = c;
            objectCount++;
            return objectCount - 1;
        }

        boolean addElement(int o, int f, int v) {
            int size = values[o][f] == NONE ? 0 : values[o][f];
            if (size >= MOST_ELEMENTS) {
                return false;
            }
            elements[o][f * MOST_ELEMENTS + size] = v;
            values[o][f] = size + 1;
            return true;
        }

        int elementAt(int o, int f, int place) {
            return elements[o][f * MOST_ELEMENTS + place];
        }
    }

    /** The violations of the latest call, with the ways to them. */
    private static final class Report {
        int count;
        final int[][] facts;
        /** The steps that led to the object of each violation. */
        final Row[] ways;
        /** The steps that the check going on has gone over so far. */
        final Row trail;
        final char[] text;
        int textLength;

        Report() {
            count = 0;
            facts = new int[MOST_VIOLATIONS][FACTS];
            ways = new Row[MOST_VIOLATIONS];
            for (int k = 0; k < MOST_VIOLATIONS; k++) {
                ways[k] = new Row(MOST_OPEN);
            }
            trail = new Row(MOST_OPEN);
            text = new char[MOST_OPEN * STEP_LETTERS];
            textLength = 0;
        }

        boolean holds(int k) {
            return k >= 0 && k < count;
        }

        boolean add(int o, int f, int element, int rule, int part, int value) {
            if (count >= MOST_VIOLATIONS) {
                return false;
            }
            int[] row = facts[count];
            row[0] = o;
            row[1] = f;
            row[2] = element;
            row[3] = rule;
            row[4] = part;
            row[5] = value;
            // No library call here: from validate on, eight calls stand open already.
            Row steps = ways[count];
            for (int i = 0; i < trail.size; i++) {
                steps.items[i] = trail.items[i];
            }
            steps.size = trail.size;
            count++;
            return true;
        }

        /** A call that failed leaves no violations. */
        int close(int outcome) {
            if (outcome != FINE) {
                count = 0;
                return outcome;
            }
            return count;
        }

        void spell(int k) {
            textLength = 0;
            Row steps = ways[k];
            for (int i = 0; i < steps.size; i++) {
                spellStep(steps.items[i] / PLACES, steps.items[i] % PLACES - 1);
                write('.');
            }
            spellStep(facts[k][1], facts[k][2]);
        }

        private void spellStep(int f, int place) {
            write('f');
            if (f >= 10) {
                write((char) ('0' + f / 10));
            }
            write((char) ('0' + f % 10));
            if (place != NONE) {
                write('[');
                write((char) ('0' + place));
                write(']');
            }
        }

        private void write(char letter) {
            if (textLength < text.length) {
                text[textLength] = letter;
                textLength++;
            }
        }
    }

    /** Goes over the objects; each step answers FINE or the failure that ends the call. */
    private static final class Checker {
        final Shape shape;
        final Rulebook rulebook;
        final Groups groups;
        final Store store;
        final Report report;
        final int[] openObjects;
        final int[] openGroups;
        int openCount;
        int visitCount;

        Checker(Shape shape, Rulebook rulebook, Groups groups, Store store, Report report) {
            this.shape = shape;
            this.rulebook = rulebook;
            this.groups = groups;
            this.store = store;
            this.report = report;
            openObjects = new int[MOST_OPEN];
            openGroups = new int[MOST_OPEN];
            openCount = 0;
            visitCount = 0;
        }

        private int check(int o, int g) {
            if (isOpen(o, g)) {
                return FINE;
            }
            if (visitCount >= MOST_VISITS || openCount >= MOST_OPEN) {
                return ROOM;
            }
            visitCount++;
            openObjects[openCount] = o;
            openGroups[openCount] = g;
            openCount++;
            int outcome = goThroughStages(o, g);
            openCount--;
            return outcome;
        }

        private boolean isOpen(int o, int g) {
            for (int i = 0; i < openCount; i++) {
                if (openObjects[i] == o && openGroups[i] == g) {
                    return true;
                }
            }
            return false;
        }

        private int goThroughStages(int o, int g) {
            Row entries = shape.orders[store.classes[o]];
            if (g != DEFAULT || entries.size == 0) {
                return goThroughStage(o, g);
            }
            if (!isGood(entries)) {
                return ORDER;
            }
            int before = report.count;
            int outcome = FINE;
            for (int i = 0; i < entries.size && outcome == FINE && report.count == before; i++) {
                int entry = entries.items[i];
                outcome = goThroughStage(o, entry == ITSELF ? DEFAULT : entry);
            }
            return outcome;
        }

        private boolean isGood(Row entries) {
            int itself = 0;
            for (int i = 0; i < entries.size; i++) {
                if (entries.items[i] == DEFAULT) {
                    return false;
                }
                if (entries.items[i] == ITSELF) {
                    itself++;
                }
            }
            return itself == 1;
        }

        private int goThroughStage(int o, int h) {
            int fields = shape.fieldsOf(store.classes[o]);
            int outcome = tryRules(o, fields, h);
            for (int f = 0; f < shape.fieldCount && outcome == FINE; f++) {
                if (shape.cascaded[f] && (fields >> f & 1) != 0) {
                    outcome = follow(o, f, shape.conversions[f][h]);
                }
            }
            return outcome;
        }

        private int follow(int o, int f, int g) {
            int value = store.values[o][f];
            if (!shape.isList(f)) {
                return value == NONE ? FINE : goOver(f, NONE, value, g);
            }
            int outcome = FINE;
            for (int place = 0; place < value && outcome == FINE; place++) {
                outcome = goOver(f, place, store.elementAt(o, f, place), g);
            }
            return outcome;
        }

        private int goOver(int f, int place, int target, int g) {
            Row trail = report.trail;
            if (!trail.add(f * PLACES + place + 1)) {
                return ROOM;
            }
            int outcome = check(target, g);
            trail.size--;
            return outcome;
        }

        /** Tries the rules on the given fields (as bits) that belong to the closure of h. */
        int tryRules(int o, int fields, int h) {
            int outcome = FINE;
            for (int r = 0; r < rulebook.ruleCount && outcome == FINE; r++) {
                Rule rule = rulebook.rules[r];
                if ((fields >> rule.field & 1) != 0 && (rule.groups & groups.closures[h]) != 0) {
                    outcome = tryRule(o, rule, r);
                }
            }
            return outcome;
        }

        private int tryRule(int o, Rule rule, int r) {
            int f = rule.field;
            if (!rule.demands.fits(shape.kinds[f], rule.element)) {
                return FIT;
            }
            int value = store.values[o][f];
            if (!rule.element) {
                return judge(o, rule, r, NONE, value);
            }
            // A composition without parts fits the elements of a field that is no list, too.
            int size = shape.isList(f) ? value : 0;
            int outcome = FINE;
            for (int place = 0; place < size && outcome == FINE; place++) {
                outcome = judge(o, rule, r, place, store.elementAt(o, f, place));
            }
            return outcome;
        }

        private int judge(int o, Rule rule, int r, int place, int value) {
            Composition demands = rule.demands;
            for (int p = 0; p < demands.size; p++) {
                if (demands.parts[p].isBrokenBy(value)) {
                    int part = demands.isSingle ? NONE : p;
                    if (!report.add(o, rule.field, place, r, part, value)) {
                        return ROOM;
                    }
                    if (demands.isSingle) {
                        return FINE;
                    }
                }
            }
            return FINE;
        }
    }
}
