import java.lang.reflect.Constructor;
import java.lang.reflect.Field;
import java.lang.reflect.Method;
import java.lang.reflect.Modifier;
import java.util.Arrays;
import java.util.Set;
import java.util.TreeSet;

/** The public face of the document, and promise 1. */
public final class FaceTest {
    private static final String[] FACE = {
        "int type(int)", "int field(int,int)", "int rule(int,boolean,int,int,int,int)",
        "boolean part(int,int,int,int)", "boolean single(int,boolean)", "boolean extend(int,int)",
        "boolean member(int,int)", "boolean order(int,int)", "boolean cascade(int)",
        "boolean convert(int,int,int)", "int object(int)", "boolean put(int,int,int)",
        "boolean append(int,int,int)", "boolean clear(int,int,boolean)", "int validate(int,int)",
        "int look(int,int,int)", "int found()", "int visits()", "int violation(int,int)",
        "int way(int,int)", "NONE", "CYCLIC", "ORDER", "FIT", "ROOM", "RuleGraph()"
    };

    private static final Due due = new Due();

    public static void main(String[] args) {
        faceIsTheDocuments();
        privateMethodsHaveNamesOfTheirOwn();
        constants();
        newObject();
        objectsAreApart();
        due.end();
    }

    private static void faceIsTheDocuments() {
        due.about("the face");
        Set<String> seen = new TreeSet<>();
        for (Method m : RuleGraph.class.getDeclaredMethods()) {
            if (!Modifier.isPrivate(m.getModifiers())) {
                seen.add(m.getReturnType() + " " + m.getName() + parameters(m.getParameterTypes()));
            }
        }
        for (Field f : RuleGraph.class.getDeclaredFields()) {
            if (!Modifier.isPrivate(f.getModifiers())) {
                seen.add(f.getName());
            }
        }
        for (Constructor<?> c : RuleGraph.class.getDeclaredConstructors()) {
            seen.add("RuleGraph" + parameters(c.getParameterTypes()));
        }
        Set<String> wanted = new TreeSet<>(Arrays.asList(FACE));
        if (!seen.equals(wanted)) {
            due.fail("it has " + seen + ", due is " + wanted);
        }
        due.yes("final", Modifier.isFinal(RuleGraph.class.getModifiers()));
        due.yes("public", Modifier.isPublic(RuleGraph.class.getModifiers()));
    }

    private static String parameters(Class<?>[] types) {
        StringBuilder text = new StringBuilder("(");
        for (Class<?> type : types) {
            text.append(text.length() > 1 ? "," : "").append(type);
        }
        return text.append(")").toString();
    }

    private static void privateMethodsHaveNamesOfTheirOwn() {
        due.about("names");
        for (Class<?> inside : RuleGraph.class.getDeclaredClasses()) {
            due.yes(inside + " static", Modifier.isStatic(inside.getModifiers()));
            for (Method m : inside.getDeclaredMethods()) {
                due.no(inside + "." + m.getName() + " of the face", isOfTheFace(m.getName()));
            }
        }
        for (Method m : RuleGraph.class.getDeclaredMethods()) {
            if (Modifier.isPrivate(m.getModifiers())) {
                due.no(m.getName() + " of the face", isOfTheFace(m.getName()));
            }
        }
    }

    private static boolean isOfTheFace(String name) {
        for (String one : FACE) {
            if (one.contains(" " + name + "(")) {
                return true;
            }
        }
        return false;
    }

    private static void constants() {
        due.about("constants");
        due.is("NONE", RuleGraph.NONE, -1);
        due.is("CYCLIC", RuleGraph.CYCLIC, -2);
        due.is("ORDER", RuleGraph.ORDER, -3);
        due.is("FIT", RuleGraph.FIT, -4);
        due.is("ROOM", RuleGraph.ROOM, -5);
    }

    private static void newObject() {
        due.about("promise 1: a new object");
        RuleGraph x = new RuleGraph();
        due.is("found()", x.found(), 0);
        due.is("visits()", x.visits(), 0);
        due.is("violation(0, 0)", x.violation(0, 0), -1);
        due.is("way(0, -1)", x.way(0, -1), -1);
        due.is("way(0, 0)", x.way(0, 0), -1);
        due.is("type(0)", x.type(0), -1);
        due.is("field(0, 0)", x.field(0, 0), -1);
        due.is("rule(0, false, 0, 0, 0, 1)", x.rule(0, false, 0, 0, 0, 1), -1);
        due.is("object(0)", x.object(0), -1);
        due.is("validate(0, 0)", x.validate(0, 0), -1);
        due.is("look(0, 0, 0)", x.look(0, 0, 0), -1);
        due.no("order(0, 1)", x.order(0, 1));
        due.no("cascade(0)", x.cascade(0));
        due.no("convert(0, 0, 0)", x.convert(0, 0, 0));
        due.no("put(0, 0, 0)", x.put(0, 0, 0));
        due.no("append(0, 0, 0)", x.append(0, 0, 0));
        due.no("clear(0, 0, true)", x.clear(0, 0, true));
        rowsAreEmpty(x);
    }

    private static void rowsAreEmpty(RuleGraph x) {
        x.type(-1);
        x.field(0, 0);
        x.object(0);
        for (int g = 0; g < 6; g++) {
            due.is("rule", x.rule(0, false, 1, 1, 0, 1 << g), g);
        }
        due.is("rule of composition 2", x.rule(0, false, 4, 2, 0, 63), 6);
        for (int g = 0; g < 6; g++) {
            due.is("validate(0, " + g + ")", x.validate(0, g), 1);
            due.is("violation(0, 3)", x.violation(0, 3), g);
        }
        due.is("validate(0, 6)", x.validate(0, 6), 0);
        due.is("visits()", x.visits(), 0);
        due.is("validate(0, 7)", x.validate(0, 7), 0);
        due.is("visits()", x.visits(), 0);
    }

    private static void objectsAreApart() {
        due.about("two objects");
        RuleGraph x = new RuleGraph();
        RuleGraph y = new RuleGraph();
        x.type(-1);
        x.extend(0, 1);
        due.is("field of the other", y.field(0, 0), -1);
        due.yes("extend of the other", y.extend(1, 0));
    }
}
