/** Promise 13, and what "Terms" says of methods of enums and of INVERSE, sentence by sentence. */
public final class Edge13InverseTest {
    private static final Check CHECK = new Check();

    public static void main(String[] args) {
        ruleFiveThenTheNameThenRuleSix();
        whereThereIsNoPath();
        theFirstPathOfOneName();
        ifThatIsAProperty();
        byAndDefaultStay();
        inverseOfEnums();
        theFirstRuleFive();
        ifThatIsAConstant();
        CHECK.end();
    }

    /** "a constant becomes what its rule 5 says; without one the constant of the same name; without one what rule 6 says." */
    private static void ruleFiveThenTheNameThenRuleSix() {
        for (int five = 0; five < 4; five++) {
            for (int six = 0; six < 4; six++) {
                BeanLoom loom = new BeanLoom();
                loom.enumeration(Looms.names(1, 2, 3), 3);
                loom.enumeration(Looms.names(4, 3, 1), 3);
                loom.method(15, 16);
                int[] whats = {-1, 4, 3, -2};
                int[] places = {-1, 0, 1, -2};
                if (five < 3) {
                    loom.rule(0, 5, 1, whats[five]);
                    loom.rule(0, 5, 2, whats[five]);
                }
                loom.rule(0, 6, 0, whats[six]);
                loom.build();
                CHECK.same("1, which has its name", loom.map(0, 0), five < 3 ? places[five] : 2);
                CHECK.same("3 by its name", loom.map(0, 2), 1);
                if (five == 3 && six == 3) {
                    CHECK.unsupported("2 by rule 6: it FAILS", loom, () -> loom.map(0, 1));
                } else {
                    CHECK.same("2", loom.map(0, 1), five < 3 ? places[five] : places[six]);
                }
                CHECK.same("NULL becomes NULL", loom.map(0, -1), -1);
                CHECK.same("nothing is made", loom.count(3), 0);
            }
        }
    }

    /** Beans 15 (1 .. 6) and 16 (1 .. 6) of INT, method 0 from 15 to 16, method 1 back as its INVERSE. */
    private static BeanLoom beans() {
        BeanLoom loom = new BeanLoom();
        loom.bean();
        loom.bean();
        for (int name = 1; name < 7; name++) {
            loom.property(15, name, 3);
            loom.property(16, name, 3);
        }
        loom.method(15, 16);
        loom.method(16, 15);
        loom.rule(1, 7, 0, 0);
        return loom;
    }

    /** What property 1 .. 6 of the inverse comes from, as told by the names, of which 0 is nothing. */
    private static void comes(String what, BeanLoom loom, int... due) {
        CHECK.same(what + " builds", loom.build(), 2);
        int source = loom.make(16, 0);
        for (int at = 0; at < 6; at++) {
            loom.put(source, at, at + 1);
        }
        int target = loom.map(1, source);
        for (int at = 0; at < 6; at++) {
            CHECK.same(what + ": " + (at + 1), loom.get(target, at), due[at]);
        }
    }

    /** "where a method has no PATH, CONSTANT, IGNORED for a property". */
    private static void whereThereIsNoPath() {
        BeanLoom loom = beans();
        for (int name = 1; name < 7; name++) {
            loom.rule(0, 0, name, Looms.path(7 - name));
        }
        loom.rule(1, 0, 1, Looms.path(3));
        loom.rule(1, 1, 2, 50);
        loom.rule(1, 2, 3, 0);
        loom.rule(1, 3, 4, 70);
        comes("rules of its own go first", loom, 3, 50, 0, 3, 2, 1);
        BeanLoom none = beans();
        none.rule(0, 1, 1, 5);
        none.rule(0, 2, 2, 5);
        none.rule(0, 3, 3, 5);
        comes("no PATH: by its name", none, 1, 2, 3, 4, 5, 6);
    }

    /** "of which the other one's first PATH of one name tells the property's name". */
    private static void theFirstPathOfOneName() {
        BeanLoom loom = beans();
        loom.rule(0, 0, 4, Looms.path(2));
        loom.rule(0, 0, 3, Looms.path(1));
        loom.rule(0, 0, 6, Looms.path(1));
        loom.rule(0, 0, 1, Looms.path(2));
        loom.rule(0, 0, 2, Looms.path(6) | 255L << 16);
        comes("the first of two, as told", loom, 3, 4, 3, 4, 5, 2);

        BeanLoom two = new BeanLoom();
        two.bean();
        two.bean();
        two.property(15, 1, 15);
        two.property(15, 2, 3);
        two.property(16, 2, 3);
        two.property(16, 3, 3);
        two.property(16, 4, 3);
        two.method(15, 16);
        two.method(16, 15);
        two.rule(1, 7, 0, 0);
        two.rule(1, 2, 1, 0);
        two.rule(0, 0, 2, Looms.path(1, 2));
        two.rule(0, 0, 3, Looms.path(1, 1, 2));
        two.rule(0, 0, 4, Looms.path(2));
        two.build();
        int source = two.make(16, 0);
        two.put(source, 0, 22);
        two.put(source, 1, 33);
        two.put(source, 2, 44);
        CHECK.same("PATHS of two and three names tell nothing", two.get(two.map(1, source), 1), 44);
    }

    /** "its PATH is that rule's target, if that is a property of the first type": else all is as without it. */
    private static void ifThatIsAProperty() {
        BeanLoom loom = beans();
        loom.rule(0, 0, 9, Looms.path(1));
        CHECK.diagnosis("the other one's fault alone", loom, 3, 0, 0);
        BeanLoom later = new BeanLoom();
        later.bean();
        later.bean();
        later.property(15, 1, 3);
        later.property(16, 1, 3);
        later.method(16, 15);
        later.method(15, 16);
        later.rule(0, 7, 0, 1);
        later.rule(1, 0, 9, Looms.path(1));
        CHECK.diagnosis("by its name, so the fault is of the other one", later, 3, 1, 0);
        BeanLoom none = new BeanLoom();
        none.bean();
        none.bean();
        none.property(15, 1, 3);
        none.property(16, 2, 3);
        none.method(16, 15);
        none.method(15, 16);
        none.rule(0, 7, 0, 1);
        none.rule(1, 0, 9, Looms.path(1));
        CHECK.diagnosis("nothing says where it comes from", none, 5, 0, 0);
    }

    /** The PATH that an INVERSE tells goes with the method's own BY and DEFAULT, and can be NO CONVERSION. */
    private static void byAndDefaultStay() {
        BeanLoom loom = new BeanLoom();
        loom.bean();
        loom.bean();
        loom.property(15, 1, 10);
        loom.property(15, 2, 10);
        loom.property(16, 3, 10);
        loom.property(16, 2, 10);
        loom.method(15, 16);
        loom.method(16, 15);
        loom.function(10, 10, 5, 0);
        loom.rule(0, 0, 3, Looms.path(1));
        loom.rule(1, 7, 0, 0);
        loom.rule(1, 4, 1, 0);
        loom.rule(1, 3, 1, 8);
        loom.build();
        int source = loom.make(16, 0);
        CHECK.same("DEFAULT", loom.get((int) loom.get(loom.map(1, source), 0), 0), 8);
        loom.put(source, 0, loom.make(10, 9));
        CHECK.same("BY", loom.get((int) loom.get(loom.map(1, source), 0), 0), 45);
        BeanLoom none = new BeanLoom();
        none.bean();
        none.bean();
        none.property(15, 1, 3);
        none.property(16, 1, 3);
        none.property(16, 2, 5);
        none.function(3, 5, 1, 0);
        none.method(15, 16);
        none.method(16, 15);
        none.rule(0, 0, 2, Looms.path(1));
        none.rule(1, 7, 0, 0);
        CHECK.diagnosis("NO CONVERSION on the way back", none, 6, 1, 0);
    }

    /** Enums 15 (1 .. 4) and 16 (3 .. 6), method 0 from 15 to 16, method 1 back as its INVERSE; what NULL is for all others. */
    private static BeanLoom enums() {
        BeanLoom loom = new BeanLoom();
        loom.enumeration(Looms.names(1, 2, 3, 4), 4);
        loom.enumeration(Looms.names(3, 4, 5, 6), 4);
        loom.method(15, 16);
        loom.method(16, 15);
        loom.rule(0, 6, 0, -1);
        loom.rule(1, 7, 0, 0);
        loom.rule(1, 6, 0, -1);
        return loom;
    }

    private static void becomes(String what, BeanLoom loom, int... due) {
        CHECK.same(what + " builds", loom.build(), 2);
        for (int place = 0; place < 4; place++) {
            CHECK.same(what + ": " + (place + 3), loom.map(1, place), due[place]);
        }
        CHECK.same(what + ": NULL", loom.map(1, -1), -1);
    }

    /** "where it has no rule 5 for a constant, which the other one's first rule 5 with it as what tells". */
    private static void inverseOfEnums() {
        becomes("without rules: by the name, then rule 6", enums(), 2, 3, -1, -1);
        BeanLoom loom = enums();
        loom.rule(0, 5, 1, 3);
        loom.rule(0, 5, 2, 5);
        becomes("before the name and rule 6", loom, 0, 3, 1, -1);
        BeanLoom own = enums();
        own.rule(0, 5, 1, 3);
        own.rule(0, 5, 2, 5);
        own.rule(1, 5, 3, 4);
        own.rule(1, 5, 5, -1);
        becomes("a rule 5 of its own goes first", own, 3, 3, -1, -1);
        BeanLoom nothing = enums();
        nothing.rule(0, 5, 1, -1);
        nothing.rule(0, 5, 2, -1);
        becomes("what becomes NULL tells nothing of NULL", nothing, 2, 3, -1, -1);
        BeanLoom six = enums();
        six.rule(0, 6, 0, 5);
        becomes("a rule 6 of the other one tells nothing", six, 2, 3, -1, -1);
    }

    /** "the other one's first rule 5 with it as what". */
    private static void theFirstRuleFive() {
        BeanLoom loom = enums();
        loom.rule(0, 5, 4, 6);
        loom.rule(0, 5, 2, 6);
        loom.rule(0, 5, 3, 5);
        loom.rule(0, 5, 1, 5);
        becomes("the first as told, not the first constant", loom, 2, 3, 2, 3);
    }

    /** "it becomes that rule's target, if that is a constant of the second type": else all is as without it. */
    private static void ifThatIsAConstant() {
        for (int target : new int[] {9, 64, -1}) {
            BeanLoom later = new BeanLoom();
            later.enumeration(Looms.names(1, 2), 2);
            later.enumeration(Looms.names(1, 2), 2);
            later.method(16, 15);
            later.method(15, 16);
            later.rule(0, 7, 0, 1);
            later.rule(1, 5, target, 2);
            CHECK.diagnosis("by its name, so the fault is of the other one", later, 3, 1, 0);
            BeanLoom none = new BeanLoom();
            none.enumeration(Looms.names(1, 2), 2);
            none.enumeration(Looms.names(1, 3), 2);
            none.method(16, 15);
            none.method(15, 16);
            none.rule(0, 7, 0, 1);
            none.rule(1, 5, target, 3);
            CHECK.diagnosis("nothing says what it becomes", none, 5, 0, 1);
        }
    }
}
