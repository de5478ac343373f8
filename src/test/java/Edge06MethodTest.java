/** Promise 6, sentence by sentence. */
public final class Edge06MethodTest {
    private static final Check CHECK = new Check();

    public static void main(String[] args) {
        twoBeansOrTwoEnums();
        sixteenAtMost();
        lastOfFortyTypes();
        refusedWhenBuilt();
        CHECK.end();
    }

    /** "IllegalArgumentException if these are not two beans or two enums (one may be the other)". */
    private static void twoBeansOrTwoEnums() {
        int[] forms = {'p', 'p', 'x', 'x', 't', 'b', 'b', 'e', 'e', 'l', 'l', 'n', 'n', 'n', 'n'};
        int[] types = {0, 6, 7, 13, 14, 15, 20, 16, 19, 17, 18, 21, -1, Integer.MIN_VALUE, Integer.MAX_VALUE};
        for (int i = 0; i < types.length; i++) {
            for (int j = 0; j < types.length; j++) {
                BeanLoom loom = new BeanLoom();
                loom.bean();
                loom.enumeration(1, 1);
                loom.list(15);
                loom.list(16);
                loom.enumeration(2, 1);
                loom.bean();
                int from = types[i];
                int to = types[j];
                if (forms[i] == forms[j] && (forms[i] == 'b' || forms[i] == 'e')) {
                    CHECK.same(from + " to " + to, loom.method(from, to), 0);
                    CHECK.same("one method", loom.count(1), 1);
                } else {
                    CHECK.argument(from + " to " + to, loom, () -> loom.method(from, to));
                }
            }
        }
    }

    /** "at most 16"; "IllegalStateException if .. there are 16": of beans and enums together. */
    private static void sixteenAtMost() {
        BeanLoom loom = new BeanLoom();
        loom.bean();
        loom.enumeration(1, 1);
        for (int number = 0; number < 16; number++) {
            CHECK.same("its number", loom.method(15 + number % 2, 15 + number % 2), number);
        }
        CHECK.state("a 17th of beans", loom, () -> loom.method(15, 15));
        CHECK.state("a 17th of enums", loom, () -> loom.method(16, 16));
        CHECK.argument("the argument is told first", loom, () -> loom.method(15, 16));
        CHECK.argument("no rule of a 17th", loom, () -> loom.rule(16, 8, 0, 0));
        loom.rule(15, 6, 0, -1);
        CHECK.same("the last one has the rule", loom.build(), 16);
        CHECK.same("the last one maps", loom.map(15, 0), 0);
        CHECK.argument("no 17th", loom, () -> loom.map(16, 0));
    }

    /** Of 40 types the last one is 39. */
    private static void lastOfFortyTypes() {
        for (int turn = 0; turn < 2; turn++) {
            BeanLoom loom = new BeanLoom();
            loom.bean();
            loom.enumeration(1, 1);
            Looms.fillTypes(loom, 39);
            int last = turn == 0 ? loom.bean() : loom.enumeration(1, 1);
            int other = turn == 0 ? 15 : 16;
            CHECK.argument("from 40", loom, () -> loom.method(40, other));
            CHECK.argument("to 40", loom, () -> loom.method(other, 40));
            CHECK.argument("from 40 to 40", loom, () -> loom.method(40, 40));
            CHECK.same("from 39", loom.method(last, other), 0);
            CHECK.same("to 39", loom.method(other, last), 1);
        }
    }

    /** "IllegalStateException if it is built". */
    private static void refusedWhenBuilt() {
        BeanLoom loom = new BeanLoom();
        loom.bean();
        loom.build();
        CHECK.state("built", loom, () -> loom.method(15, 15));
        CHECK.argument("built, and no bean", loom, () -> loom.method(15, 16));
        CHECK.argument("none is there", loom, () -> loom.map(0, -1));
        BeanLoom faulty = Looms.pair(14, 6);
        CHECK.argument("a diagnosis", faulty::build);
        CHECK.same("not built", faulty.method(15, 15), 1);
    }
}
