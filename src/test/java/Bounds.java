import java.util.ArrayList;
import java.util.List;
import java.util.function.Function;
import java.util.function.Supplier;

/**
 * Tries calls at the ends of what is taken, and looks whether refused ones changed anything. Each
 * question is asked of an object of its own, since an object has 512 calls and questions that make
 * something disturb one another.
 */
final class Bounds {
    /** A call of the face, with a number that the test varies. */
    interface Call {
        Object with(RuleGraph x, int i);
    }

    private static final int MOST_CALLS = 200;
    private static final List<Function<RuleGraph, String>> QUESTIONS = questions();

    private final Due due;

    Bounds(Due due) {
        this.due = due;
    }

    /** All of from .. to are taken; the number below, the one above and the ends of int are refused. */
    void range(Supplier<RuleGraph> build, String what, int from, int to, Call call) {
        for (int i = from; i <= to; i++) {
            takenFor(build, what, call, i);
        }
        refusedFor(build, what, call, from - 1, to + 1, Integer.MIN_VALUE, Integer.MAX_VALUE);
    }

    void takenFor(Supplier<RuleGraph> build, String what, Call call, int... numbers) {
        for (int i : numbers) {
            taken(build, what + " " + i, x -> call.with(x, i));
        }
    }

    void refusedFor(Supplier<RuleGraph> build, String what, Call call, int... numbers) {
        for (int i : numbers) {
            refused(build, what + " " + i, x -> call.with(x, i));
        }
    }

    void taken(Supplier<RuleGraph> build, String what, Function<RuleGraph, Object> call) {
        if (isRefusal(call.apply(build.get()))) {
            due.fail(what + " is refused");
        }
    }

    /** The call answers NONE or false, and no later call shows that it was made. */
    void refused(Supplier<RuleGraph> build, String what, Function<RuleGraph, Object> call) {
        Object answer = call.apply(build.get());
        if (!isRefusal(answer)) {
            due.fail(what + " answered " + answer + ", due is a refusal");
            return;
        }
        for (Function<RuleGraph, String> question : QUESTIONS) {
            RuleGraph asked = build.get();
            call.apply(asked);
            String got = question.apply(asked);
            String wanted = question.apply(build.get());
            if (!got.equals(wanted)) {
                due.fail(what + " was refused, but then: " + got + ", due is: " + wanted);
                return;
            }
        }
    }

    private static boolean isRefusal(Object answer) {
        return answer.equals(RuleGraph.NONE) || answer.equals(false);
    }

    private static List<Function<RuleGraph, String>> questions() {
        List<Function<RuleGraph, String>> all = new ArrayList<>();
        all.add(Bounds::readings);
        askChecks(all);
        askRoom(all);
        for (int i = 0; i < 36; i++) {
            int g = i / 6;
            int h = i % 6;
            all.add(x -> "extend(" + g + ", " + h + ") = " + x.extend(g, h));
        }
        return all;
    }

    private static void askChecks(List<Function<RuleGraph, String>> all) {
        for (int i = 0; i < 10 * 8; i++) {
            int o = i / 8;
            int g = i % 8;
            all.add(x -> "validate(" + o + ", " + g + ") = " + x.validate(o, g) + readings(x));
        }
        for (int i = 0; i < 10 * 14; i++) {
            int o = i / 14;
            int f = i % 14;
            all.add(x -> looks(x, o, f));
        }
    }

    /** What can still be made, and which numbers it gets. */
    private static void askRoom(List<Function<RuleGraph, String>> all) {
        all.add(x -> "type: " + untilRefused(() -> x.type(-1)));
        all.add(x -> "field: " + untilRefused(() -> x.field(0, 0)));
        all.add(x -> "rule: " + untilRefused(() -> x.rule(0, false, 1, 0, 0, 1)));
        all.add(x -> "object: " + untilRefused(() -> x.object(0)));
        for (int i = 0; i < 6; i++) {
            int c = i;
            all.add(x -> "part of " + c + ": " + untilRefused(() -> x.part(c, 1, 0, 0)));
            all.add(x -> "order of " + c + ": " + untilRefused(() -> x.order(c, 1)));
            all.add(x -> "member of " + (c + 4) + ": " + untilRefused(() -> x.member(c + 4, 1)));
        }
    }

    private static String untilRefused(Supplier<Object> call) {
        StringBuilder text = new StringBuilder();
        Object answer = call.get();
        for (int i = 0; i < MOST_CALLS && !isRefusal(answer); i++) {
            text.append(answer).append(' ');
            answer = call.get();
        }
        return text.append(answer).toString();
    }

    private static String looks(RuleGraph x, int o, int f) {
        StringBuilder text = new StringBuilder();
        for (int g = 0; g < 6; g++) {
            int answer = x.look(o, f, g);
            text.append("look(" + o + ", " + f + ", " + g + ") = " + answer + " ");
            if (answer != RuleGraph.NONE) {
                text.append(readings(x)).append(' ');
            }
        }
        return text.toString();
    }

    /** Everything that the latest check can be asked about. */
    static String readings(RuleGraph x) {
        StringBuilder text = new StringBuilder(", found " + x.found() + ", visits " + x.visits());
        for (int k = 0; k < x.found(); k++) {
            text.append(", ").append(Due.wayOf(x, k));
            for (int what = 0; what < 6; what++) {
                text.append(' ').append(x.violation(k, what));
            }
        }
        return text.toString();
    }
}
