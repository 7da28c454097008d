import java.lang.reflect.InvocationTargetException;
import java.lang.reflect.Method;
import java.util.ArrayList;
import java.util.Arrays;
import java.util.HashMap;
import java.util.List;
import java.util.Map;
import java.util.Set;
import java.util.TreeSet;

/** Compares the program with PlainGraph on many runs of up to 512 calls; the runs are always the same. */
public final class ModelTest {
    private static final int RUNS = 3000;
    private static final int CALLS = 512;
    private static final Set<String> CAUSES = Set.of("cyclic", "order", "fit", "room for visits", "room for checks",
        "room for violations", "ended by stage");

    private static final Map<String, Method> REAL = methodsOf(RuleGraph.class);
    private static final Map<String, Method> PLAIN = methodsOf(PlainGraph.class);

    private static final Due due = new Due();
    private static final Set<String> causes = new TreeSet<>();

    private final RuleGraph real = new RuleGraph();
    private final PlainGraph plain = new PlainGraph(causes);
    private final List<String> log = new ArrayList<>();
    private final boolean wild;
    private final boolean isWeb;
    private long seed;
    private boolean same = true;

    private ModelTest(int run) {
        seed = run;
        wild = run % 3 == 0;
        isWeb = run % 3 == 1;
    }

    public static void main(String[] args) {
        for (int run = 0; run < RUNS; run++) {
            due.about("run " + run);
            new ModelTest(run).go();
        }
        due.about("causes");
        if (!causes.equals(CAUSES)) {
            due.fail("the runs met " + causes + " alone");
        }
        due.end();
    }

    private static Map<String, Method> methodsOf(Class<?> type) {
        Map<String, Method> methods = new HashMap<>();
        for (Method m : type.getDeclaredMethods()) {
            methods.put(m.getName(), m);
        }
        return methods;
    }

    private int below(int bound) {
        seed = seed * 6364136223846793005L + 1442695040888963407L;
        return (int) ((seed >>> 33) % bound);
    }

    private boolean oneIn(int n) {
        return below(n) == 0;
    }

    /** Mostly one of 0 .. bound - 1, in wild runs often one that stands outside. */
    private int some(int bound) {
        if (oneIn(wild ? 12 : 200)) {
            int[] outside = {-1, -2, bound, bound + 1, Integer.MIN_VALUE, Integer.MAX_VALUE};
            return outside[below(outside.length)];
        }
        return below(bound);
    }

    private int call(String name, Object... args) {
        Object got = answer(REAL.get(name), real, args);
        Object wanted = answer(PLAIN.get(name), plain, args);
        log.add(name + Arrays.toString(args) + " = " + got);
        if (!got.equals(wanted) && same) {
            same = false;
            due.fail(String.join("\n  ", log) + ", due is " + wanted);
        }
        return got instanceof Integer i ? i : 0;
    }

    private static Object answer(Method method, Object target, Object... args) {
        try {
            return method.invoke(target, args);
        } catch (InvocationTargetException e) {
            return e.getCause().toString();
        } catch (IllegalAccessException e) {
            throw new IllegalStateException(e);
        }
    }

    private void go() {
        if (!wild) {
            build();
        }
        while (log.size() < CALLS - 60 && same) {
            step();
        }
    }

    private void build() {
        for (int c = 0; c < 1 + below(5); c++) {
            call("type", oneIn(3) ? -1 : below(c + 1) - 1);
        }
        for (int i = 0; i < 8 + below(6); i++) {
            call("field", below(2), isWeb && i < 4 ? 1 + 2 * below(2) : below(4));
        }
        for (int i = 0; i < 10; i++) {
            call("object", oneIn(3) ? some(6) : below(2));
        }
        for (int f = 0; f < 14; f++) {
            if (oneIn(isWeb ? 1 : 2)) {
                call("cascade", f);
            }
        }
        for (int i = 0; i < (isWeb ? 4 : 12); i++) {
            makeRule();
        }
        for (int i = 0; i < 60; i++) {
            setValue();
        }
        for (int i = 0; i < 6; i++) {
            call("convert", below(8), below(isWeb ? 3 : 6), below(6));
        }
    }

    private void step() {
        switch (below(24)) {
            case 0 -> call("type", some(7) - 1);
            case 1, 2 -> call("field", some(6), some(4));
            case 3, 4 -> makeRule();
            case 5 -> call("part", some(3), tidyPartKind(), below(5) - 1, below(4));
            case 6 -> call("single", some(3), oneIn(2));
            case 7 -> call("extend", some(6), some(6));
            case 8 -> call("member", 6 + some(2), oneIn(8) ? some(8) : some(6));
            case 9 -> makeOrder();
            case 10 -> call("cascade", some(14));
            case 11 -> call("convert", some(14), some(6), some(6));
            case 12 -> call("object", some(6));
            case 13, 14, 15, 16, 17 -> setValue();
            case 18 -> read(call("look", some(10), some(14), some(6)));
            default -> read(call("validate", some(10), oneIn(2) ? 0 : some(8)));
        }
    }

    private int tidyPartKind() {
        return wild ? some(4) : 1 + below(2);
    }

    private void makeRule() {
        int f = some(14);
        boolean element = oneIn(3);
        int kind = some(5);
        if (!oneIn(wild ? 3 : 40)) {
            int[][] fitting = element ? new int[][] {{4}, {4}, {1, 2, 4}, {0}}
                : new int[][] {{1, 2, 4}, {0}, {0, 3}, {0, 3}};
            int[] kinds = fitting[plain.kindOf(f)];
            kind = kinds[below(kinds.length)];
        }
        int a = kind == 4 ? some(3) : below(5) - 1;
        call("rule", f, element, kind, a, below(5), oneIn(4) ? some(64) : 1 << below(6));
    }

    private void makeOrder() {
        int c = some(6);
        call("order", c, some(7) - 1);
        if (!wild) {
            call("order", c, oneIn(3) ? some(7) - 1 : -1);
        }
    }

    private void setValue() {
        int o = some(10);
        int f = some(14);
        boolean leads = plain.kindOf(f) % 2 == 1;
        int v = leads ? some(10) : below(7) - 2;
        if (plain.kindOf(f) < 2 != oneIn(30)) {
            call("put", o, f, leads && oneIn(8) ? -1 : v);
        } else if (oneIn(8)) {
            call("clear", o, f, oneIn(2));
        } else {
            call("append", o, f, v);
        }
    }

    private void read(int answer) {
        call("found");
        call("visits");
        if (answer > 0) {
            int k = below(answer);
            for (int what = 0; what < 6; what++) {
                call("violation", k, what);
            }
            int length = call("way", k, -1);
            call("way", k, length);
            for (int i = 0; i < 4; i++) {
                call("way", k, below(length));
            }
        }
        call("violation", some(24), some(6));
        call("way", some(24), some(20) - 1);
    }
}
