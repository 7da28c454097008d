/** The calls that README.md shows, with the answers that stand there beside them. */
public final class ReadmeTest {
    private static final Due due = new Due();

    public static void main(String[] args) {
        RuleGraph x = new RuleGraph();
        int person = x.type(-1);
        int age = x.field(person, 0);
        int friends = x.field(person, 3);
        x.rule(age, false, 1, 18, 0, 1);
        x.cascade(friends);
        int ann = x.object(person);
        int bob = x.object(person);
        x.put(ann, age, 20);
        x.append(ann, friends, bob);
        oneGroup(x, ann, bob, age);
        severalGroups(x, person, friends, ann, bob);
        due.end();
    }

    private static void oneGroup(RuleGraph x, int ann, int bob, int age) {
        due.about("one group");
        due.is("validate(ann, 0)", x.validate(ann, 0), 1);
        due.violation(x, 0, "f1[0].f0", bob, age, -1, 0, -1, 0);
    }

    private static void severalGroups(RuleGraph x, int person, int friends, int ann, int bob) {
        due.about("several groups");
        x.rule(friends, false, 3, 1, 3, 2);
        x.clear(bob, friends, false);
        x.member(6, 0);
        x.member(6, 1);
        due.is("validate(ann, 6)", x.validate(ann, 6), 1);
        due.violation(x, 0, "f1[0].f0", bob, 0, -1, 0, -1, 0);
        x.extend(2, 0);
        x.extend(2, 1);
        due.is("validate(ann, 2)", x.validate(ann, 2), 2);
        due.violation(x, 0, "f1[0].f0", bob, 0, -1, 0, -1, 0);
        due.violation(x, 1, "f1[0].f1", bob, friends, -1, 1, -1, 0);
        x.order(person, 1);
        x.order(person, -1);
        due.is("validate(ann, 0)", x.validate(ann, 0), 1);
        due.violation(x, 0, "f1[0].f1", bob, friends, -1, 1, -1, 0);
    }
}
