import java.util.ArrayList;
import java.util.Arrays;
import java.util.HashMap;
import java.util.HashSet;
import java.util.List;
import java.util.Map;
import java.util.Set;
import java.util.TreeSet;

/**
 * The document told a second time, with the whole Java library and in another build than the
 * program's, so that ModelTest can compare the two on many runs.
 */
final class PlainGraph {
    private static final class Failure extends RuntimeException {
        private static final long serialVersionUID = 1L;
        final int code;
        final String cause;

        Failure(int code, String cause) {
            this.code = code;
            this.cause = cause;
        }
    }

    private record FieldOf(int owner, int kind) { }

    private record Asked(int kind, int a, int b) { }

    private record RuleOn(int field, boolean element, Asked asked, int groups) { }

    private record Broken(int[] facts, String way) { }

    private record Open(int object, int group) { }

    private final List<Integer> parents = new ArrayList<>();
    private final List<FieldOf> fields = new ArrayList<>();
    private final List<RuleOn> rules = new ArrayList<>();
    private final List<List<Asked>> compositions = List.of(new ArrayList<>(), new ArrayList<>(), new ArrayList<>());
    private final Set<Integer> singles = new HashSet<>();
    private final Map<Integer, Set<Integer>> extended = new HashMap<>();
    private final Map<Integer, List<Integer>> sequences = new HashMap<>();
    private final Map<Integer, List<Integer>> orders = new HashMap<>();
    private final Set<Integer> cascaded = new HashSet<>();
    private final Map<List<Integer>, Integer> conversions = new HashMap<>();
    private final List<Integer> classes = new ArrayList<>();
    /** An Integer or a List of them, by object and field; what was never set is missing. */
    private final Map<List<Integer>, Object> values = new HashMap<>();
    private List<Broken> violations = new ArrayList<>();
    private List<Open> visited = new ArrayList<>();
    private final Set<String> causes;

    /** Causes: where the failures that were met are noted. */
    PlainGraph(Set<String> causes) {
        this.causes = causes;
    }

    private static boolean in(int i, int from, int to) {
        return from <= i && i <= to;
    }

    int kindOf(int f) {
        return f >= 0 && f < fields.size() ? fields.get(f).kind : 0;
    }

    public int type(int parent) {
        if (parents.size() == 6 || !in(parent, -1, parents.size() - 1)) return -1;
        parents.add(parent);
        return parents.size() - 1;
    }

    public int field(int c, int kind) {
        if (fields.size() == 14 || !in(c, 0, parents.size() - 1) || !in(kind, 0, 3)) return -1;
        fields.add(new FieldOf(c, kind));
        return fields.size() - 1;
    }

    public int rule(int field, boolean element, int kind, int a, int b, int groups) {
        if (rules.size() == 24 || !in(field, 0, fields.size() - 1) || !in(kind, 0, 4)) return -1;
        if (kind == 4 && !in(a, 0, 2) || !in(groups, 1, 63)) return -1;
        rules.add(new RuleOn(field, element, new Asked(kind, a, b), groups));
        return rules.size() - 1;
    }

    public boolean part(int c, int kind, int a, int b) {
        return in(c, 0, 2) && in(kind, 0, 3) && compositions.get(c).size() < 3
            && compositions.get(c).add(new Asked(kind, a, b));
    }

    public boolean single(int c, boolean on) {
        if (!in(c, 0, 2)) return false;
        if (on) singles.add(c); else singles.remove(c);
        return true;
    }

    private Set<Integer> closure(int g) {
        Set<Integer> all = new TreeSet<>();
        List<Integer> open = new ArrayList<>(List.of(g));
        while (!open.isEmpty()) {
            int next = open.remove(open.size() - 1);
            if (all.add(next)) open.addAll(extended.getOrDefault(next, Set.of()));
        }
        return all;
    }

    public boolean extend(int g, int h) {
        if (!in(g, 0, 5) || !in(h, 0, 5) || closure(h).contains(g)) return false;
        extended.computeIfAbsent(g, x -> new HashSet<>()).add(h);
        return true;
    }

    private static boolean addUpTo4(Map<Integer, List<Integer>> rows, int key, int item) {
        List<Integer> row = rows.computeIfAbsent(key, x -> new ArrayList<>());
        return row.size() < 4 && row.add(item);
    }

    public boolean member(int s, int g) {
        return in(s, 6, 7) && in(g, 0, 7) && addUpTo4(sequences, s, g);
    }

    public boolean order(int c, int g) {
        return in(c, 0, parents.size() - 1) && in(g, -1, 5) && addUpTo4(orders, c, g);
    }

    public boolean cascade(int field) {
        if (!in(field, 0, fields.size() - 1) || fields.get(field).kind % 2 == 0) return false;
        cascaded.add(field);
        return true;
    }

    public boolean convert(int field, int from, int to) {
        if (!in(field, 0, fields.size() - 1) || !in(from, 0, 5) || !in(to, 0, 5)) return false;
        conversions.put(List.of(field, from), to);
        return true;
    }

    public int object(int c) {
        if (classes.size() == 10 || !in(c, 0, parents.size() - 1)) return -1;
        classes.add(c);
        return classes.size() - 1;
    }

    private boolean isObject(int o) {
        return in(o, 0, classes.size() - 1);
    }

    private boolean has(int o, int f) {
        if (!isObject(o) || !in(f, 0, fields.size() - 1)) return false;
        for (int c = classes.get(o); c != -1; c = parents.get(c)) {
            if (fields.get(f).owner == c) return true;
        }
        return false;
    }

    public boolean put(int o, int f, int v) {
        if (!has(o, f) || fields.get(f).kind > 1) return false;
        if (fields.get(f).kind == 0) {
            values.put(List.of(o, f), v);
        } else if (v == -1) {
            values.remove(List.of(o, f));
        } else if (isObject(v)) {
            values.put(List.of(o, f), v);
        } else {
            return false;
        }
        return true;
    }

    private List<?> listOf(int o, int f) {
        return values.get(List.of(o, f)) instanceof List<?> list ? list : null;
    }

    public boolean append(int o, int f, int v) {
        if (!has(o, f) || fields.get(f).kind < 2 || fields.get(f).kind == 3 && !isObject(v)) return false;
        List<Object> longer = new ArrayList<>(listOf(o, f) == null ? List.of() : listOf(o, f));
        longer.add(v);
        if (longer.size() > 3) return false;
        values.put(List.of(o, f), longer);
        return true;
    }

    public boolean clear(int o, int f, boolean none) {
        if (!has(o, f) || fields.get(f).kind < 2) return false;
        if (none) values.remove(List.of(o, f)); else values.put(List.of(o, f), List.of());
        return true;
    }

    private boolean isCyclic(int s, List<Integer> above) {
        if (above.contains(s)) return true;
        List<Integer> here = new ArrayList<>(above);
        here.add(s);
        return sequences.getOrDefault(s, List.of()).stream().anyMatch(m -> m > 5 && isCyclic(m, here));
    }

    private List<Integer> flat(int g) {
        if (g < 6) return List.of(g);
        List<Integer> row = new ArrayList<>();
        sequences.getOrDefault(g, List.of()).forEach(m -> row.addAll(flat(m)));
        return row;
    }

    public int validate(int o, int g) {
        if (!isObject(o) || !in(g, 0, 7)) return -1;
        violations = new ArrayList<>();
        visited = new ArrayList<>();
        try {
            if (g > 5 && isCyclic(g, List.of())) throw new Failure(-2, "cyclic");
            for (int each : flat(g)) {
                if (violations.isEmpty()) check(o, each, List.of(), "");
            }
        } catch (Failure failure) {
            return failed(failure);
        }
        return violations.size();
    }

    private int failed(Failure failure) {
        causes.add(failure.cause);
        violations = new ArrayList<>();
        return failure.code;
    }

    private void check(int o, int g, List<Open> above, String way) {
        Open self = new Open(o, g);
        if (above.contains(self)) return;
        if (visited.size() == 60) throw new Failure(-5, "room for visits");
        if (above.size() == 16) throw new Failure(-5, "room for checks");
        visited.add(self);
        List<Open> here = new ArrayList<>(above);
        here.add(self);
        List<Integer> order = g == 0 ? orders.getOrDefault(classes.get(o), List.of()) : List.of();
        if (order.isEmpty()) {
            stage(o, g, here, way);
            return;
        }
        if (order.contains(0) || order.stream().filter(e -> e == -1).count() != 1) throw new Failure(-3, "order");
        for (int entry : order) {
            int before = violations.size();
            stage(o, Math.max(entry, 0), here, way);
            if (violations.size() > before) {
                causes.add("ended by stage");
                return;
            }
        }
    }

    private void stage(int o, int h, List<Open> here, String way) {
        for (int r = 0; r < rules.size(); r++) {
            if (has(o, rules.get(r).field)) tryRule(o, r, h, way);
        }
        for (int f = 0; f < fields.size(); f++) {
            if (!has(o, f) || !cascaded.contains(f)) continue;
            int g = conversions.getOrDefault(List.of(f, h), h);
            if (listOf(o, f) != null) {
                for (int i = 0; i < listOf(o, f).size(); i++) {
                    check((Integer) listOf(o, f).get(i), g, here, way + "f" + f + "[" + i + "].");
                }
            } else if (values.get(List.of(o, f)) instanceof Integer target) {
                check(target, g, here, way + "f" + f + ".");
            }
        }
    }

    private void tryRule(int o, int r, int h, String way) {
        RuleOn rule = rules.get(r);
        if (closure(h).stream().noneMatch(g -> (rule.groups >> g) % 2 == 1)) return;
        int f = rule.field;
        int kind = fields.get(f).kind;
        List<Asked> asked = rule.asked.kind == 4 ? compositions.get(rule.asked.a) : List.of(rule.asked);
        for (Asked one : asked) {
            if (!fits(one.kind, kind, rule.element)) throw new Failure(-4, "fit");
        }
        if (!rule.element) {
            Object value = values.get(List.of(o, f));
            tryValue(o, r, -1, value == null && kind == 0 ? Integer.valueOf(0) : value, way + "f" + f);
        } else if (listOf(o, f) != null) {
            for (int i = 0; i < listOf(o, f).size(); i++) {
                tryValue(o, r, i, listOf(o, f).get(i), way + "f" + f + "[" + i + "]");
            }
        }
    }

    private static boolean fits(int kind, int fieldKind, boolean element) {
        String[] table = element ? new String[] {"LINKS", "INTS", "INTS", ""}
            : new String[] {"LINK INTS LINKS", "INT", "INT", "INTS LINKS"};
        String name = List.of("INT", "LINK", "INTS", "LINKS").get(fieldKind);
        return Arrays.asList(table[kind].split(" ")).contains(name);
    }

    private static boolean isBroken(Asked asked, Object value) {
        switch (asked.kind) {
            case 0:
                return value == null;
            case 1:
                return (Integer) value < asked.a;
            case 2:
                return (Integer) value > asked.a;
            default:
                return value instanceof List<?> list && !in(list.size(), asked.a, asked.b);
        }
    }

    private void tryValue(int o, int r, int element, Object value, String way) {
        RuleOn rule = rules.get(r);
        int shown = value == null ? -1 : value instanceof List<?> list ? list.size() : (Integer) value;
        List<Integer> broken = new ArrayList<>();
        if (rule.asked.kind != 4) {
            if (isBroken(rule.asked, value)) broken.add(-1);
        } else {
            List<Asked> parts = compositions.get(rule.asked.a);
            for (int p = 0; p < parts.size(); p++) {
                if (isBroken(parts.get(p), value)) broken.add(p);
            }
            if (singles.contains(rule.asked.a) && !broken.isEmpty()) broken = List.of(-1);
        }
        for (int part : broken) {
            if (violations.size() == 24) throw new Failure(-5, "room for violations");
            violations.add(new Broken(new int[] {o, rule.field, element, r, part, shown}, way));
        }
    }

    public int look(int o, int f, int g) {
        if (!has(o, f) || !in(g, 0, 5)) return -1;
        violations = new ArrayList<>();
        try {
            for (int r = 0; r < rules.size(); r++) {
                if (rules.get(r).field == f) tryRule(o, r, g, "");
            }
        } catch (Failure failure) {
            return failed(failure);
        }
        return violations.size();
    }

    public int found() {
        return violations.size();
    }

    public int visits() {
        return visited.size();
    }

    public int violation(int k, int what) {
        return in(k, 0, violations.size() - 1) && in(what, 0, 5) ? violations.get(k).facts[what] : -1;
    }

    public int way(int k, int i) {
        if (!in(k, 0, violations.size() - 1)) return -1;
        String way = violations.get(k).way;
        return i == -1 ? way.length() : in(i, 0, way.length() - 1) ? way.charAt(i) : -1;
    }
}
