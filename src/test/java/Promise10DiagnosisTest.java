/** Promise 10: diagnosis: each fault, which of several comes first, and what is no fault. */
public final class Promise10DiagnosisTest {
    private static final Check CHECK = new Check();

    /** Beans 15 (1 INT, 2 bean 15, 3 TEXT, 4 enum 17) and 16 (1 LONG, 3 TEXT), enums 17 (1, 2, 3) and 18 (2, 3, 4). */
    private static BeanLoom loom() {
        BeanLoom loom = new BeanLoom();
        loom.bean();
        loom.bean();
        loom.enumeration(0x030201, 3);
        loom.enumeration(0x040302, 3);
        loom.property(15, 1, 3);
        loom.property(15, 2, 15);
        loom.property(15, 3, 14);
        loom.property(15, 4, 17);
        loom.property(16, 1, 4);
        loom.property(16, 3, 14);
        return loom;
    }

    private static BeanLoom beans(int... rules) {
        BeanLoom loom = loom();
        loom.method(15, 16);
        return told(loom, rules);
    }

    private static BeanLoom enums(int... rules) {
        BeanLoom loom = loom();
        loom.method(17, 18);
        return told(loom, rules);
    }

    private static BeanLoom told(BeanLoom loom, int... rules) {
        for (int i = 0; i < rules.length; i += 3) {
            loom.rule(0, rules[i], rules[i + 1], rules[i + 2]);
        }
        return loom;
    }

    private static void due(String what, BeanLoom loom, int fault, int place) {
        CHECK.diagnosis(what, loom, fault, fault == 0 ? -1 : 0, place);
    }

    public static void main(String[] args) {
        BeanLoom fresh = new BeanLoom();
        CHECK.same("what -1", fresh.diagnosis(-1), -1);
        CHECK.same("what 3", fresh.diagnosis(3), -1);
        due("no fault", beans(), 0, -1);
        inverses();
        rules();
        enumRules();
        properties();
        orders();
        CHECK.end();
    }

    private static void inverses() {
        due("INVERSE of no method", beans(7, 0, 1), 1, -1);
        due("INVERSE of -1", beans(7, 0, -1), 1, -1);
        due("INVERSE of itself, from elsewhere", beans(7, 0, 0), 1, -1);
        BeanLoom same = loom();
        same.method(15, 15);
        due("INVERSE of itself has an INVERSE", told(same, 7, 0, 0), 1, -1);
        BeanLoom aside = beans(7, 0, 1);
        aside.method(15, 15);
        due("INVERSE of a method to elsewhere", aside, 1, -1);
        BeanLoom both = beans(7, 0, 1);
        both.method(16, 15);
        both.rule(1, 7, 0, 0);
        due("INVERSE of what has one itself", both, 1, -1);
        BeanLoom good = beans(7, 0, 5, 7, 0, 1);
        good.method(16, 15);
        for (int name = 2; name < 5; name += 2) {
            good.rule(1, 2, name, 0);
        }
        due("the latest INVERSE counts", good, 0, -1);
        due("before the rules", beans(0, 9, 0, 7, 0, 1), 1, -1);
        BeanLoom wide = beans();
        wide.rule(0, 7, 0, 1L << 32);
        due("a long that is no method", wide, 1, -1);
    }

    private static void rules() {
        int[][] alike = {{0, 0}, {0, 1}, {1, 0}, {1, 2}, {2, 0}, {2, 2}, {3, 3}, {4, 4}};
        for (int[] pair : alike) {
            BeanLoom loom = beans(pair[0], 1, pair[0] == 0 ? 2 : 0, pair[1], 1, pair[1] == 0 ? 2 : 0);
            loom.function(3, 4, 1, 0);
            due(pair[0] + " and " + pair[1] + " of the same target", loom, 2, 1);
        }
        due("two PATHS", beans(0, 1, 2, 0, 1, 2), 2, 1);
        due("PATH and CONSTANT", beans(0, 1, 2, 3, 1, 9, 1, 1, 2), 2, 2);
        due("CONSTANT and IGNORED", beans(1, 1, 2, 2, 1, 2), 2, 1);
        due("two DEFAULTS", beans(3, 1, 2, 3, 1, 2), 2, 1);
        due("PATH, DEFAULT of the same target", beans(0, 1, 2, 3, 1, 2), 0, -1);
        due("the same kind of two targets", beans(1, 1, 2, 1, 3, 2), 0, -1);
        due("rules 8 are no fault", beans(8, 1, 1, 8, 1, 1), 0, -1);
        for (int kind = 0; kind < 5; kind++) {
            due("no property: kind " + kind, beans(kind, 2, 2), 3, 0);
            due("an enum has none: kind " + kind, enums(6, 0, -1, kind, 1, 2), 3, 1);
        }
        due("a bean has no constant", beans(5, 1, 1), 3, 0);
        due("2 before 3", beans(3, 1, 0, 3, 1, 0, 3, 9, 0), 2, 1);
        due("3, the rule before", beans(3, 9, 0, 3, 1, 0, 3, 1, 0), 3, 0);
        due("a target beyond the names", beans(1, 257, 0), 3, 0);
        due("an empty PATH", beans(0, 1, 0), 4, 0);
        due("an empty PATH with more behind the 0", beans(0, 1, 2 << 8), 4, 0);
        due("an empty PATH behind another one", beans(0, 1, 2, 0, 3, 0), 4, 1);
        due("a PATH to no name of the bean", beans(0, 1, 9), 4, 0);
        due("a PATH to what is no name", beans(0, 1, 255), 4, 0);
        due("a PATH through what is no bean", beans(0, 1, 2 << 8 | 2), 4, 0);
        due("a PATH through an enum", beans(0, 1, 2 << 8 | 5), 4, 0);
        due("a PATH of which the third is none", beans(0, 1, 9 << 16 | 3 << 8 | 3), 4, 0);
        due("a PATH of three", beans(0, 1, 2 << 16 | 3 << 8 | 3), 0, -1);
        due("BY no function", beans(4, 1, 0), 4, 0);
        due("BY -1", beans(4, 1, -1), 4, 0);
        due("3 before 4", beans(0, 2, 0), 3, 0);
        due("a rule 6 in a method of beans", beans(6, 1, -1), 4, 0);
        due("INVERSE is no rule to look at here", beans(3, 1, 5), 0, -1);
    }

    private static void enumRules() {
        due("an enum's constant", enums(), 5, 0);
        due("a rule 5 for it", enums(5, 1, 4), 0, -1);
        due("a rule 6 for it", enums(6, 1, 4), 0, -1);
        due("a rule 6: NULL", enums(6, 1, -1), 0, -1);
        due("a rule 6: fails", enums(6, 1, -2), 0, -1);
        due("a rule 5: NULL", enums(5, 1, -1), 0, -1);
        due("a rule 5: -2", enums(5, 1, -2), 4, 0);
        due("a rule 5: no constant", enums(5, 1, 1), 4, 0);
        due("a rule 5 of no constant", enums(5, 4, 4), 3, 0);
        due("a rule 5 twice", enums(5, 1, 4, 5, 1, 4), 2, 1);
        due("a rule 6: no constant", enums(6, 1, 1), 4, 0);
        due("a rule 6: -3", enums(6, 1, -3), 4, 0);
        due("rules 6 twice", enums(6, 1, 4, 6, 1, 4), 0, -1);
        due("a rule 8 in a method of enums", enums(8, 1, 0), 4, 0);
        BeanLoom wide = enums();
        wide.rule(0, 5, 1, (1L << 32) + 4);
        due("a long that is no name", wide, 4, 0);
        BeanLoom turned = enums(7, 0, 1);
        turned.method(18, 17);
        turned.rule(1, 5, 9, 1);
        due("an inverse rule 5 whose target is no constant says nothing", turned, 5, 0);
        BeanLoom named = enums(7, 0, 1);
        named.method(18, 17);
        named.rule(1, 5, 4, 1);
        due("an inverse rule 5 says it", named, 0, -1);
        BeanLoom back = loom();
        back.method(18, 17);
        due("another constant's place", back, 5, 2);
    }

    private static void properties() {
        BeanLoom gone = loom();
        gone.method(16, 15);
        due("nothing says where it comes from", gone, 5, 1);
        gone.rule(0, 3, 2, 5);
        due("a DEFAULT does not say it", gone, 5, 1);
        gone.rule(0, 0, 2, 2);
        due("NO CONVERSION of a PATH", gone, 6, 1);
        BeanLoom kept = loom();
        kept.method(16, 15);
        kept.rule(0, 2, 2, 0);
        kept.rule(0, 2, 4, 0);
        due("IGNORED ones need nothing", kept, 0, -1);

        BeanLoom constant = loom();
        constant.method(15, 15);
        due("a CONSTANT of an enum", told(constant, 1, 4, 1), 6, 3);
        due("a CONSTANT beside BY and DEFAULT", told(functions(3, 14 - 7), 1, 1, 5, 3, 1, 5, 4, 1, 0), 0, -1);
        BeanLoom many = functions(4, 5);
        many.function(4, 5, 1, 1);
        due("an AMBIGUOUS CONSTANT", told(many, 1, 3, 5), 7, 2);
        BeanLoom one = functions(4, 5);
        due("a DEFAULT of BOOLEAN by a function", told(one, 0, 3, 4, 3, 3, 0), 0, -1);
        due("NO CONVERSION of a DEFAULT", told(functions(5, 5), 3, 3, 0), 6, 2);
        BeanLoom two = functions(4, 5);
        two.function(3, 5, 1, 1);
        two.function(10, 5, 1, 1);
        due("a function just from LONG goes first", told(two, 3, 3, 5), 0, -1);
        due("an AMBIGUOUS PATH over the table", told(two(), 0, 3, 2), 7, 2);

        due("BY from another type", told(functions(4, 3), 4, 1, 0), 6, 0);
        due("BY to another type", told(functions(3, 10), 4, 1, 0), 6, 0);
        due("BY just so", told(functions(3, 3), 4, 1, 0), 0, -1);
        due("BY, and a DEFAULT that is none", told(functions(5, 5), 4, 3, 0, 3, 3, 1), 6, 2);
        BeanLoom exact = functions(5, 3);
        exact.function(5, 3, 2, 0);
        due("AMBIGUOUS functions", told(exact, 0, 1, 4), 7, 0);
        BeanLoom freed = functions(5, 3);
        freed.function(5, 3, 2, 0);
        due("one of them NAMED elsewhere", told(freed, 0, 1, 4, 4, 3, 1), 6, 2);
        BeanLoom methods = loom();
        methods.property(16, 2, 16);
        methods.method(15, 16);
        methods.rule(0, 0, 2, 3);
        due("a METHOD from A to B", methods, 0, -1);
        BeanLoom twice = loom();
        twice.property(16, 2, 16);
        twice.method(15, 16);
        twice.method(15, 16);
        due("AMBIGUOUS METHODS", twice, 7, 2);
        BeanLoom late = beans(4, 1, 0);
        late.function(3, 4, 1, 1);
        due("a function told after its BY", late, 0, -1);
    }

    /** A bean 15 (1 INT, 2 INT box, 3 BOOLEAN) to itself, and a function. */
    private static BeanLoom functions(int from, int to) {
        BeanLoom loom = new BeanLoom();
        loom.bean();
        loom.property(15, 1, 3);
        loom.property(15, 2, 10);
        loom.property(15, 3, 5);
        loom.function(from, to, 1, 0);
        loom.method(15, 15);
        return loom;
    }

    /** Two functions to BOOLEAN, none of them from INT. */
    private static BeanLoom two() {
        BeanLoom loom = functions(10, 5);
        loom.function(4, 5, 1, 0);
        return loom;
    }

    private static void orders() {
        due("rules before properties", enums(5, 2, 9), 4, 0);
        BeanLoom loom = loom();
        loom.method(17, 17);
        loom.method(18, 17);
        loom.method(16, 15);
        loom.rule(2, 7, 0, 99);
        CHECK.diagnosis("the first method with a fault", loom, 5, 1, 2);
        loom.rule(1, 6, 0, -1);
        CHECK.diagnosis("of the latest build()", loom, 1, 2, -1);
        BeanLoom mended = enums();
        due("a fault", mended, 5, 0);
        mended.rule(0, 6, 0, -1);
        due("mended", mended, 0, -1);
        CHECK.state("built again", mended::build);
        CHECK.same("no diagnosis is left", mended.diagnosis(0), 0);
    }
}
