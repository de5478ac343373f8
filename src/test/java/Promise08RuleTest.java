/** Promise 8: rule: what it refuses, and what each kind of rule does. */
public final class Promise08RuleTest {
    public static void main(String[] args) {
        Check check = new Check();
        BeanLoom loom = new BeanLoom();
        loom.bean();
        loom.method(15, 15);
        check.argument("no such method: 1", () -> loom.rule(1, 0, 0, 0));
        check.argument("no such method: -1", () -> loom.rule(-1, 0, 0, 0));
        check.argument("no such kind: -1", () -> loom.rule(0, -1, 0, 0));
        check.argument("no such kind: 9", () -> loom.rule(0, 9, 0, 0));
        for (int rule = 0; rule < 24; rule++) {
            loom.rule(0, 8, Integer.MIN_VALUE, rule);
        }
        check.state("a rule too many", () -> loom.rule(0, 8, 0, 0));
        check.argument("the argument is told first", () -> loom.rule(0, 9, 0, 0));
        check.same("24 rules build", loom.build(), 1);
        check.state("built", () -> loom.rule(0, 8, 0, 0));
        check.argument("built, and a wrong method", () -> loom.rule(1, 8, 0, 0));
        check.same("the latest rule 8 has not what 1", loom.map(0, -1), -1);
        paths(check);
        constantsAndDefaults(check);
        enums(check);
        inverseOfBeans(check);
        inverseOfEnums(check);
        check.end();
    }

    private static void paths(Check check) {
        BeanLoom loom = new BeanLoom();
        int node = loom.bean();
        int target = loom.bean();
        loom.property(node, 0, node);
        loom.property(node, 63, 3);
        for (int name = 1; name < 7; name++) {
            loom.property(target, name, 3);
        }
        loom.method(node, target);
        loom.rule(0, 0, 1, 64);
        loom.rule(0, 0, 2, 64 << 8 | 1);
        loom.rule(0, 0, 3, 64 << 16 | 1 << 8 | 1);
        loom.rule(0, 0, 4, 0x77_00_00_00L + (64 << 16 | 1 << 8 | 1));
        loom.rule(0, 0, 5, 0x77_00_40L);
        loom.rule(0, 2, 6, 99);
        loom.build();
        int third = loom.make(node, 0);
        int second = loom.make(node, 0);
        int first = loom.make(node, 0);
        loom.put(third, 1, 333);
        loom.put(second, 1, 22);
        loom.put(first, 1, 1);
        loom.put(second, 0, third);
        loom.put(first, 0, second);
        int all = loom.map(0, first);
        check.same("a path of one name", loom.get(all, 0), 1);
        check.same("of two", loom.get(all, 1), 22);
        check.same("of three", loom.get(all, 2), 333);
        check.same("a fourth byte is not looked at", loom.get(all, 3), 333);
        check.same("up to a 0", loom.get(all, 4), 1);
        check.same("IGNORED", loom.get(all, 5), 0);
        int some = loom.map(0, second);
        check.same("one but the last is NULL: nothing", loom.get(some, 2), 0);
        check.same("two names go", loom.get(some, 1), 333);
        int least = loom.map(0, third);
        check.same("the first is NULL: nothing", loom.get(least, 1), 0);
        check.same("the first of three is NULL", loom.get(least, 2), 0);
    }

    private static void constantsAndDefaults(Check check) {
        BeanLoom loom = new BeanLoom();
        int source = loom.bean();
        int target = loom.bean();
        loom.property(source, 1, 10);
        loom.property(source, 2, source);
        loom.property(source, 3, 4);
        int[] types = {4, 11, 14, 6, 3, 14, 10, 4};
        for (int name = 1; name < 9; name++) {
            loom.property(target, name, types[name - 1]);
        }
        loom.function(10, 10, 100, 0);
        loom.method(source, target);
        for (int name = 1; name < 5; name++) {
            loom.rule(0, 1, name, -3000000000L);
        }
        loom.rule(0, 0, 5, 2 << 8 | 3);
        loom.rule(0, 3, 5, 4294967297L);
        loom.rule(0, 0, 6, 2);
        loom.rule(0, 3, 6, 77);
        loom.rule(0, 0, 7, 2);
        loom.rule(0, 3, 7, 5);
        loom.rule(0, 4, 7, 0);
        loom.rule(0, 0, 8, 4);
        loom.rule(0, 3, 8, 99);
        loom.build();
        int bean = loom.make(source, 0);
        loom.put(bean, 2, -1);
        int got = loom.map(0, bean);
        check.same("CONSTANT: LONG", loom.get(got, 0), -3000000000L);
        check.same("CONSTANT: a box", loom.get((int) loom.get(got, 1), 0), -3000000000L);
        check.text("CONSTANT: TEXT", loom, loom.get(got, 2), "-3000000000");
        check.same("CONSTANT: DOUBLE", loom.get(got, 3), Double.doubleToLongBits(-3e9));
        check.same("DEFAULT: one but the last is NULL", loom.get(got, 4), 1);
        check.text("DEFAULT: the last is NULL", loom, loom.get(got, 5), "77");
        check.same("DEFAULT: not by the function", loom.get((int) loom.get(got, 6), 0), 5);
        check.same("-1 of a PRIMITIVE is not NULL", loom.get(got, 7), -1);
        loom.put(bean, 0, loom.make(10, 3));
        loom.put(bean, 1, bean);
        got = loom.map(0, bean);
        check.same("no DEFAULT", loom.get(got, 4), 3);
        check.text("no DEFAULT of a text", loom, loom.get(got, 5), "3");
        check.same("BY the function, though the type is the same", loom.get((int) loom.get(got, 6), 0), 300);
    }

    private static void enums(Check check) {
        BeanLoom loom = new BeanLoom();
        int from = loom.enumeration(0x0504030201L, 5);
        int to = loom.enumeration(0x01090807, 4);
        loom.method(from, to);
        loom.rule(0, 5, 2, 8);
        loom.rule(0, 5, 3, -1);
        loom.rule(0, 6, 1, 9);
        loom.rule(0, 6, 77, 7);
        loom.method(from, to);
        loom.rule(1, 6, 0, -2);
        loom.rule(1, 5, 1, 9);
        loom.method(from, to);
        loom.rule(2, 6, 0, -1);
        check.same("three methods", loom.build(), 3);
        check.same("the same name", loom.map(0, 0), 3);
        check.same("rule 5", loom.map(0, 1), 1);
        check.same("rule 5: NULL", loom.map(0, 2), -1);
        check.same("the latest rule 6", loom.map(0, 3), 0);
        check.same("NULL becomes NULL", loom.map(0, -1), -1);
        check.same("rule 5 before the name", loom.map(1, 0), 2);
        check.unsupported("rule 6: they fail", () -> loom.map(1, 1));
        check.same("NULL does not fail", loom.map(1, -1), -1);
        check.same("rule 6: NULL", loom.map(2, 4), -1);
        check.same("the name before rule 6", loom.map(2, 0), 3);

        BeanLoom zero = new BeanLoom();
        zero.enumeration(0x0100, 2);
        zero.enumeration(0x000102, 3);
        zero.method(15, 16);
        zero.rule(0, 5, 1, 0);
        zero.build();
        check.same("the name 0", zero.map(0, 0), 2);
        check.same("rule 5 to the name 0", zero.map(0, 1), 2);
    }

    private static void inverseOfBeans(Check check) {
        BeanLoom loom = new BeanLoom();
        int left = loom.bean();
        int right = loom.bean();
        for (int name = 1; name < 7; name++) {
            loom.property(left, name, 3);
            loom.property(right, name, 3);
        }
        loom.method(left, right);
        loom.rule(0, 0, 1, 3);
        loom.rule(0, 0, 2, 3);
        loom.rule(0, 0, 3, 5);
        loom.rule(0, 0, 4, 6);
        loom.rule(0, 0, 5, 7);
        loom.method(right, left);
        loom.rule(1, 7, 0, 1);
        loom.rule(1, 7, 0, 0);
        loom.rule(1, 0, 4, 7);
        loom.rule(1, 1, 5, 50);
        loom.rule(1, 2, 6, 0);
        loom.build();
        int source = loom.make(right, 0);
        for (int place = 0; place < 6; place++) {
            loom.put(source, place, place + 1);
        }
        int got = loom.map(1, source);
        check.same("no PATH of the other one tells it: its name", loom.get(got, 0), 1);
        check.same("the first PATH that tells it", loom.get(got, 1), 1);
        check.same("its own name again", loom.get(got, 2), 3);
        check.same("a PATH of its own", loom.get(got, 3), 6);
        check.same("a CONSTANT of its own", loom.get(got, 4), 50);
        check.same("IGNORED", loom.get(got, 5), 0);

        BeanLoom gone = new BeanLoom();
        gone.bean();
        gone.bean();
        gone.property(15, 1, 3);
        gone.property(15, 2, 15);
        gone.property(16, 1, 3);
        gone.property(16, 3, 3);
        gone.method(16, 15);
        gone.rule(0, 7, 0, 1);
        gone.rule(0, 2, 2, 0);
        gone.method(15, 16);
        gone.rule(1, 0, 5, 2);
        gone.rule(1, 0, 3, 2 << 8 | 3);
        check.diagnosis("a target that is no property leaves the name: 3 of the other one", gone, 3, 1, 0);
    }

    private static void inverseOfEnums(Check check) {
        BeanLoom loom = new BeanLoom();
        int left = loom.enumeration(0x04030201, 4);
        int right = loom.enumeration(0x0b0a0201, 4);
        loom.method(left, right);
        loom.rule(0, 5, 3, 10);
        loom.rule(0, 5, 4, 10);
        loom.rule(0, 5, 1, 2);
        loom.method(right, left);
        loom.rule(1, 7, 5, 0);
        loom.rule(1, 5, 11, -1);
        check.same("two methods", loom.build(), 2);
        check.same("no rule 5 tells it: its name", loom.map(1, 0), 0);
        check.same("before the same name", loom.map(1, 1), 0);
        check.same("the first rule 5 that tells it", loom.map(1, 2), 2);
        check.same("a rule 5 of its own", loom.map(1, 3), -1);

        BeanLoom own = new BeanLoom();
        own.enumeration(0x0201, 2);
        own.enumeration(0x0201, 2);
        own.method(15, 16);
        own.method(16, 15);
        own.rule(0, 5, 1, 2);
        own.rule(1, 7, 0, 0);
        own.rule(1, 5, 2, 2);
        own.build();
        check.same("its own rule 5 goes first", own.map(1, 1), 1);
    }
}
