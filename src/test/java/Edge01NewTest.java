/** Promise 1, sentence by sentence. */
public final class Edge01NewTest {
    private static final Check CHECK = new Check();

    public static void main(String[] args) {
        noTypesButTheFirst();
        numbersBeginAnew();
        nothingThereYet();
        CHECK.end();
    }

    /** "No types but the first 15". */
    private static void noTypesButTheFirst() {
        CHECK.same("a bean is 15", new BeanLoom().bean(), 15);
        CHECK.same("an enum is 15", new BeanLoom().enumeration(0, 1), 15);
        for (int box = 7; box < 15; box++) {
            BeanLoom loom = new BeanLoom();
            CHECK.same("no list is there: a list is 15", loom.list(box), 15);
            CHECK.same("16 types", loom.count(0), 16);
        }
        BeanLoom loom = new BeanLoom();
        CHECK.argument("a list of 15", loom, () -> loom.list(15));
        CHECK.argument("a list of 14 + 26", loom, () -> loom.list(40));
        CHECK.argument("a property of 15", loom, () -> loom.property(15, 0, 0));
        CHECK.argument("a method of 15", loom, () -> loom.method(15, 15));
        CHECK.argument("an object of 15", loom, () -> loom.make(15, 0));
        CHECK.argument("an object of 39", loom, () -> loom.make(39, 0));
        for (int type = 7; type < 15; type++) {
            CHECK.same("the first types are there", loom.make(type, 0), type - 7);
        }
    }

    /** "no methods, functions, objects; not built", also beside a loom that has all of them. */
    private static void numbersBeginAnew() {
        BeanLoom full = new BeanLoom();
        full.bean();
        full.property(15, 0, 3);
        full.list(14);
        full.method(15, 15);
        full.function(3, 3, 1, 1);
        full.rule(0, 8, 0, 1);
        full.make(15, 0);
        full.build();
        full.map(0, 0);
        BeanLoom wrong = Looms.pair(14, 6);
        CHECK.argument("a diagnosis", wrong::build);
        BeanLoom loom = new BeanLoom();
        CHECK.same("types", loom.count(0), 15);
        CHECK.same("methods", loom.count(1), 0);
        CHECK.same("functions", loom.count(2), 0);
        CHECK.same("objects", loom.count(3), 0);
        CHECK.same("built", loom.count(4), 0);
        CHECK.same("diagnosis(0)", loom.diagnosis(0), 0);
        CHECK.same("diagnosis(1)", loom.diagnosis(1), -1);
        CHECK.same("diagnosis(2)", loom.diagnosis(2), -1);
        CHECK.same("the first object", loom.make(14, 0), 0);
        CHECK.same("the first bean", loom.bean(), 15);
        CHECK.same("the first method", loom.method(15, 15), 0);
        CHECK.same("the first function", loom.function(3, 3, 1, 1), 0);
        CHECK.same("it has no rules: NULL becomes NULL", loom.build(), 1);
        CHECK.same("and maps so", loom.map(0, -1), -1);
        CHECK.same("the other one is as it was", full.count(3), 2);
    }

    private static void nothingThereYet() {
        int[] any = {0, 1, -1, 15, 400, Integer.MAX_VALUE, Integer.MIN_VALUE};
        for (int number : any) {
            BeanLoom loom = new BeanLoom();
            CHECK.argument("no method has a rule", loom, () -> loom.rule(number, 0, 0, 0));
            CHECK.argument("no method maps", loom, () -> loom.map(number, -1));
            CHECK.bounds("no object has a value", loom, () -> loom.get(number, 0));
            CHECK.bounds("no object has a type", loom, () -> loom.about(number, 0));
            CHECK.notPut("no object gets a value", loom, number, 0, 0);
        }
        CHECK.same("NONE", BeanLoom.NONE, -1);
    }
}
