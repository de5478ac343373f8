/** Promise 10, and what "Terms" says of the DIAGNOSIS, sentence by sentence. */
public final class Edge10DiagnosisTest {
    private static final Check CHECK = new Check();

    public static void main(String[] args) {
        whats();
        ofTheLatestBuild();
        inverseOfWhat();
        repeatedRules();
        targets();
        paths();
        byNoFunction();
        whatsOfEnums();
        nothingSays();
        inverseSays();
        noConversion();
        ambiguous();
        lists();
        notLookedAt();
        firstOfThese();
        lastPlaces();
        CHECK.end();
    }

    /** Beans 15 (1 INT, 2 bean 15, 3 TEXT) and 16 (1 LONG, 3 TEXT), enums 17 (1, 2) and 18 (2, 3), method 0 given. */
    private static BeanLoom loom(int from, int to) {
        BeanLoom loom = new BeanLoom();
        loom.bean();
        loom.bean();
        loom.enumeration(Looms.names(1, 2), 2);
        loom.enumeration(Looms.names(2, 3), 2);
        loom.property(15, 1, 3);
        loom.property(15, 2, 15);
        loom.property(15, 3, 14);
        loom.property(16, 1, 4);
        loom.property(16, 3, 14);
        loom.method(from, to);
        return loom;
    }

    private static void due(String what, BeanLoom loom, int fault, int place) {
        CHECK.diagnosis(what, loom, fault, fault == 0 ? -1 : 0, place);
    }

    private static void rule(String what, int fault, int kind, int target, long value) {
        BeanLoom loom = loom(15, 16);
        loom.rule(0, kind, target, value);
        due(what, loom, fault, fault == 0 ? -1 : 0);
    }

    private static void enumRule(String what, int fault, int kind, int target, long value) {
        BeanLoom loom = loom(17, 18);
        loom.rule(0, 6, 0, -1);
        loom.rule(0, kind, target, value);
        due(what, loom, fault, fault == 0 ? -1 : 1);
    }

    /** "what 0: the number .., 1: the method, 2: the rule ..; NONE for another what". */
    private static void whats() {
        int[] others = {-1, 3, 4, Integer.MIN_VALUE, Integer.MAX_VALUE};
        BeanLoom loom = new BeanLoom();
        for (int turn = 0; turn < 3; turn++) {
            for (int what : others) {
                CHECK.same("diagnosis(" + what + ")", loom.diagnosis(what), -1);
            }
            loom = turn == 0 ? loom(17, 18) : Looms.built();
            if (turn == 0) {
                due("a fault", loom, 5, 0);
            }
        }
    }

    /** "Of the latest build()": what comes between does not change it; "0, NONE, NONE if there was none". */
    private static void ofTheLatestBuild() {
        BeanLoom loom = loom(15, 16);
        CHECK.same("before: 0", loom.diagnosis(0), 0);
        CHECK.same("before: method", loom.diagnosis(1), -1);
        CHECK.same("before: place", loom.diagnosis(2), -1);
        loom.method(15, 16);
        loom.rule(1, 8, 0, 0);
        loom.rule(1, 0, 9, 1);
        CHECK.same("a wrong rule is none yet", loom.diagnosis(0), 0);
        CHECK.diagnosis("rule 1 of method 1", loom, 3, 1, 1);
        String before = loom.diagnosis(0) + " " + loom.diagnosis(1) + " " + loom.diagnosis(2);
        loom.property(16, 9, 3);
        loom.rule(0, 2, 9, 0);
        loom.make(15, 0);
        CHECK.argument("refused", () -> loom.rule(9, 0, 0, 0));
        CHECK.yes("no other call changes it",
                before.equals(loom.diagnosis(0) + " " + loom.diagnosis(1) + " " + loom.diagnosis(2)));
        CHECK.diagnosis("the latest: a PATH to no name", loom, 4, 1, 1);
        loom.method(15, 15);
        loom.rule(0, 7, 0, 2);
        CHECK.diagnosis("the latest: INVERSE", loom, 1, 0, -1);

        BeanLoom mended = loom(17, 18);
        due("a fault", mended, 5, 0);
        mended.rule(0, 6, 0, -2);
        due("none", mended, 0, -1);
        CHECK.state("built", mended::build);
        CHECK.same("still none", mended.diagnosis(0), 0);
        CHECK.same("still no method", mended.diagnosis(1), -1);
    }

    /** "1: INVERSE of what is no method, or not from this one's second type to its first, or has an INVERSE itself." */
    private static void inverseOfWhat() {
        for (long what : new long[] {-1, 3, 15, 16, Long.MIN_VALUE, Long.MAX_VALUE, 1L << 32, (1L << 32) + 1}) {
            BeanLoom loom = new BeanLoom();
            loom.bean();
            loom.bean();
            loom.method(15, 16);
            loom.method(16, 15);
            loom.method(15, 15);
            loom.rule(0, 7, 0, what);
            due("INVERSE of " + what, loom, 1, -1);
            loom.rule(0, 7, 0, 1);
            due("the latest counts", loom, 0, -1);
        }
        int[][] others = {{15, 16}, {15, 15}, {16, 16}, {16, 17}, {17, 15}, {18, 18}};
        for (int[] other : others) {
            BeanLoom loom = new BeanLoom();
            loom.bean();
            loom.bean();
            loom.bean();
            loom.enumeration(1, 1);
            loom.method(15, 16);
            loom.method(other[0], other[1]);
            loom.rule(0, 7, 0, 1);
            due("INVERSE of one from " + other[0] + " to " + other[1], loom, 1, -1);
        }
        BeanLoom self = new BeanLoom();
        self.enumeration(1, 1);
        self.method(15, 15);
        self.rule(0, 7, 0, 0);
        due("itself has an INVERSE", self, 1, -1);
        BeanLoom twin = new BeanLoom();
        twin.enumeration(1, 1);
        twin.method(15, 15);
        twin.method(15, 15);
        twin.rule(0, 7, 0, 1);
        due("from a type to itself", twin, 0, -1);
        BeanLoom chain = new BeanLoom();
        chain.bean();
        chain.method(15, 15);
        chain.method(15, 15);
        chain.method(15, 15);
        chain.rule(0, 7, 0, 2);
        chain.rule(1, 7, 0, 0);
        CHECK.diagnosis("of one that has an INVERSE of a third", chain, 1, 1, -1);
    }

    /** "2: a rule 0 .. 5 which the same target has had of the same kind, or, of kinds 0, 1, 2, of one of these". */
    private static void repeatedRules() {
        for (int first = 0; first < 5; first++) {
            for (int second = 0; second < 5; second++) {
                BeanLoom loom = loom(15, 16);
                loom.function(3, 4, 1, 0);
                loom.rule(0, 8, 0, 0);
                loom.rule(0, first, 1, first == 0 ? 2 : 0);
                loom.rule(0, second, 3, second == 0 ? 4 : 0);
                loom.rule(0, second, 1, second == 0 ? 2 : 0);
                boolean again = first == second || first < 3 && second < 3;
                String what = first + ", then " + second + " of one target";
                // BY the function from INT to LONG does not fit the TEXT of 3.
                boolean fits = second != 4;
                due(what, loom, again ? 2 : fits ? 0 : 6, again ? 3 : fits ? -1 : 1);
            }
        }
        for (int target : new int[] {-1, 9, 64, Integer.MIN_VALUE}) {
            BeanLoom loom = loom(15, 16);
            loom.rule(0, 0, target, 2);
            due("before that: the target is none", loom, 3, 0);
        }
        BeanLoom enums = loom(17, 18);
        enums.rule(0, 5, 1, 2);
        enums.rule(0, 5, 2, 2);
        enums.rule(0, 5, 1, -1);
        due("5 twice", enums, 2, 2);
        BeanLoom many = loom(15, 16);
        many.rule(0, 8, 0, 0);
        many.rule(0, 8, 0, 0);
        due("8 twice", many, 0, -1);
        BeanLoom sixes = loom(17, 18);
        sixes.rule(0, 6, 1, 2);
        sixes.rule(0, 6, 1, 2);
        due("6 twice", sixes, 0, -1);
    }

    /** "3: a target that is no property of the second type (an enum has none; 5: no constant of the first ..)". */
    private static void targets() {
        int[] none = {0, 2, 4, 62, 63, 64, -1, 257, Integer.MIN_VALUE, Integer.MAX_VALUE};
        for (int target : none) {
            for (int kind = 0; kind < 5; kind++) {
                rule("kind " + kind + " of " + target, 3, kind, target, kind == 0 ? 2 : 0);
            }
        }
        for (int kind = 0; kind < 5; kind++) {
            for (int target = 1; target < 4; target++) {
                enumRule("an enum has none: kind " + kind, 3, kind, target, 2);
            }
        }
        for (int target = 0; target < 4; target++) {
            rule("a bean has no constants: " + target, 3, 5, target, -1);
        }
        enumRule("no constant of the first type: 0", 3, 5, 0, 2);
        enumRule("a constant of the second type alone", 3, 5, 3, 2);
        enumRule("64", 3, 5, 64, 2);
        enumRule("-1", 3, 5, -1, 2);
        enumRule("a constant", 0, 5, 1, 2);
        enumRule("the last constant", 0, 5, 2, 3);
    }

    /** "4: a PATH of which a name is none of the bean there, or that is empty". */
    private static void paths() {
        rule("empty", 4, 0, 1, 0);
        rule("empty before a 0", 4, 0, 1, Looms.path(0) << 8);
        rule("empty but for a fourth byte", 4, 0, 1, 2L << 24);
        rule("just a fifth byte", 4, 0, 1, 2L << 32);
        rule("a name", 0, 0, 1, Looms.path(1));
        rule("no name of the bean: 0", 4, 0, 1, Looms.path(0));
        rule("no name of the bean: 4", 4, 0, 1, Looms.path(4));
        rule("no name at all: 254", 4, 0, 1, 255);
        rule("64", 4, 0, 1, 65);
        rule("the second is none", 4, 0, 1, Looms.path(2, 4));
        rule("the second is one", 0, 0, 1, Looms.path(2, 1));
        rule("the third is none", 4, 0, 1, Looms.path(2, 2, 4));
        rule("the third is one", 0, 0, 1, Looms.path(2, 2, 1));
        rule("a fourth is not looked at", 0, 0, 1, Looms.path(2, 2, 1, 60));
        rule("behind an INT there is no bean", 4, 0, 1, Looms.path(1, 1));
        rule("behind a TEXT there is no bean", 4, 0, 1, Looms.path(3, 1));
        rule("behind an INT of a bean there is none", 4, 0, 1, Looms.path(2, 1, 1));
        rule("behind a 0 nothing is looked at", 0, 0, 1, Looms.path(2, 1) | 255L << 24);
        rule("nor behind the first 0", 0, 0, 1, Looms.path(1) | 255L << 16);
        BeanLoom loom = new BeanLoom();
        loom.bean();
        loom.bean();
        loom.list(15);
        loom.property(15, 1, 17);
        loom.property(15, 2, 10);
        loom.property(16, 1, 3);
        loom.method(15, 16);
        loom.rule(0, 0, 1, Looms.path(1, 2));
        due("a list is no bean", loom, 4, 0);
        BeanLoom other = new BeanLoom();
        other.bean();
        other.bean();
        other.property(15, 1, 16);
        other.property(16, 2, 3);
        other.method(15, 16);
        other.rule(0, 0, 2, Looms.path(1, 1));
        due("the name of the first bean is none of the next one", other, 4, 0);
    }

    /** "BY no function". */
    private static void byNoFunction() {
        for (long what : new long[] {-1, 2, 8, Long.MIN_VALUE, Long.MAX_VALUE, 1L << 32, (1L << 32) + 1}) {
            BeanLoom loom = loom(15, 16);
            loom.function(5, 0, 1, 0);
            loom.function(3, 4, 1, 0);
            loom.rule(0, 4, 1, what);
            due("BY " + what, loom, 4, 0);
        }
        BeanLoom loom = loom(15, 16);
        loom.function(5, 0, 1, 0);
        loom.function(3, 4, 1, 0);
        loom.rule(0, 4, 1, 1);
        due("BY the last one", loom, 0, -1);
        BeanLoom none = loom(15, 16);
        none.rule(0, 4, 1, 0);
        due("there is none", none, 4, 0);
        BeanLoom ignored = loom(15, 16);
        ignored.rule(0, 2, 1, 0);
        ignored.rule(0, 4, 1, 0);
        due("also of an IGNORED one", ignored, 4, 1);
    }

    /** "5, 6: a what that is no constant of the second type, nor as said; a rule 6 in a method of beans, 8 in .. enums". */
    private static void whatsOfEnums() {
        long[] none = {-3, 0, 1, 4, 63, 64, Long.MIN_VALUE, Long.MAX_VALUE, (1L << 32) + 2, (1L << 32) - 1};
        for (long what : none) {
            enumRule("5 to " + what, 4, 5, 1, what);
            enumRule("6 to " + what, 4, 6, 1, what);
        }
        enumRule("5 to -2", 4, 5, 1, -2);
        enumRule("6 to -2", 0, 6, 1, -2);
        for (long what : new long[] {-1, 2, 3}) {
            enumRule("5 to " + what, 0, 5, 1, what);
            enumRule("6 to " + what, 0, 6, 1, what);
        }
        for (long what : new long[] {-2, -1, 0, 1, 2}) {
            rule("6 in a method of beans: " + what, 4, 6, 1, what);
            enumRule("8 in a method of enums: " + what, 4, 8, 1, what);
            rule("8 in a method of beans: " + what, 0, 8, 99, what);
        }
    }

    /** "5: nothing says where it comes from (no PATH, and .. no property of that name; or no rule, no such name, no rule 6)". */
    private static void nothingSays() {
        for (int said = -1; said < 5; said++) {
            BeanLoom loom = loom(15, 16);
            loom.property(16, 2, 3);
            loom.property(16, 5, 3);
            loom.function(3, 3, 1, 0);
            loom.rule(0, 0, 2, Looms.path(1));
            if (said >= 0) {
                loom.rule(0, said, 5, said == 0 ? Looms.path(2, 1) : 0);
            }
            boolean says = said >= 0 && said < 3;
            due("kind " + said + " says it", loom, says ? 0 : 5, says ? -1 : 3);
        }
        for (int said = 0; said < 4; said++) {
            BeanLoom loom = loom(17, 18);
            if (said == 1) {
                loom.rule(0, 5, 1, -1);
            } else if (said == 2) {
                loom.rule(0, 6, 0, -2);
            } else if (said == 3) {
                loom.rule(0, 5, 2, 3);
            }
            due("enums " + said, loom, said == 1 || said == 2 ? 0 : 5, said == 1 || said == 2 ? -1 : 0);
        }
        BeanLoom names = loom(18, 17);
        due("2 by its name, 3 by nothing", names, 5, 1);
    }

    /** An INVERSE that tells a PATH or a constant says it; one that does not leaves it as it is. */
    private static void inverseSays() {
        BeanLoom loom = new BeanLoom();
        loom.bean();
        loom.bean();
        loom.property(15, 1, 3);
        loom.property(16, 2, 3);
        loom.method(16, 15);
        loom.method(15, 16);
        loom.rule(0, 7, 0, 1);
        due("nothing tells it", loom, 5, 0);
        loom.rule(1, 0, 2, Looms.path(1));
        due("a PATH of one name tells it", loom, 0, -1);

        BeanLoom two = new BeanLoom();
        two.bean();
        two.bean();
        two.property(15, 1, 15);
        two.property(16, 2, 15);
        two.method(16, 15);
        two.method(15, 16);
        two.rule(0, 7, 0, 1);
        two.rule(1, 0, 2, Looms.path(1, 1));
        due("a PATH of two names does not", two, 5, 0);

        for (int kind = 1; kind < 4; kind++) {
            BeanLoom other = new BeanLoom();
            other.bean();
            other.bean();
            other.property(15, 1, 3);
            other.property(16, 2, 3);
            other.method(16, 15);
            other.method(15, 16);
            other.rule(0, 7, 0, 1);
            other.rule(1, kind, 2, Looms.path(1));
            due("kind " + kind + " is no PATH", other, 5, 0);
        }
        BeanLoom enums = loom(17, 18);
        enums.method(18, 17);
        enums.rule(0, 7, 0, 1);
        enums.rule(1, 6, 0, 1);
        due("a rule 6 tells nothing", enums, 5, 0);
        enums.rule(1, 5, 3, 1);
        due("a rule 5 tells it", enums, 0, -1);
    }

    /** "6 .. NO CONVERSION (BY: a function that is not just from the one type to the other)". */
    private static void noConversion() {
        int[][] none = {{3, 5}, {5, 3}, {12, 10}, {10, 12}, {5, 6}, {6, 5}, {6, 14}, {13, 14}, {14, 6}, {14, 13}, {3, 17},
            {17, 3}, {15, 3}, {3, 15}, {14, 15}, {15, 14}, {15, 16}, {16, 15}, {17, 18}, {18, 17}, {17, 15}, {15, 17},
            {17, 10}, {10, 17}};
        for (int[] types : none) {
            BeanLoom loom = new BeanLoom();
            loom.bean();
            loom.bean();
            loom.enumeration(1, 1);
            loom.enumeration(1, 1);
            loom.bean();
            loom.bean();
            loom.property(19, 1, types[0]);
            loom.property(20, 1, types[1]);
            loom.method(19, 20);
            due(types[0] + " to " + types[1], loom, 6, 0);
        }
        for (int to : new int[] {5, 12, 15, 16, 17}) {
            BeanLoom loom = new BeanLoom();
            loom.bean();
            loom.enumeration(1, 1);
            loom.list(14);
            loom.property(15, 1, to);
            loom.property(15, 2, 14);
            loom.method(15, 15);
            loom.rule(0, 1, 1, 0);
            due("a LONG to " + to, loom, 6, 0);
        }
        int[][] by = {{3, 4, 3, 4, 0}, {3, 4, 10, 4, 6}, {3, 4, 3, 11, 6}, {3, 4, 4, 3, 6}, {10, 11, 10, 11, 0},
            {10, 11, 3, 11, 6}, {10, 11, 10, 4, 6}, {3, 3, 3, 3, 0}, {3, 3, 3, 4, 6}, {14, 3, 3, 3, 6}};
        for (int[] each : by) {
            BeanLoom loom = Looms.pair(each[0], each[1]);
            loom.function(each[2], each[3], 1, 0);
            loom.rule(0, 4, 1, 0);
            due("BY from " + each[2] + " to " + each[3], loom, each[4], each[4] == 0 ? -1 : 0);
        }
    }

    /** "or AMBIGUOUS": more than one function, method, or function over the table. */
    private static void ambiguous() {
        BeanLoom three = Looms.pair(3, 4);
        three.function(3, 4, 1, 0);
        due("one function", three, 0, -1);
        for (int more = 2; more < 5; more++) {
            BeanLoom loom = Looms.pair(3, 4);
            for (int i = 0; i < more; i++) {
                loom.function(3, 4, i, 0);
            }
            due(more + " functions", loom, 7, 0);
            BeanLoom over = Looms.pair(14, 5);
            due("the table's row is enough", over, 0, -1);
            BeanLoom table = Looms.pair(3, 5);
            int[] from = {0, 7, 2, 11};
            for (int i = 0; i < more; i++) {
                table.function(from[i], 5, i, 0);
            }
            due(more + " functions over the table", table, 7, 0);
            BeanLoom row = Looms.pair(3, 10);
            for (int i = 0; i < more; i++) {
                row.function(from[i], 10, i, 0);
            }
            due("a row before functions over the table", row, 0, -1);
            BeanLoom methods = Looms.pair(15, 16);
            for (int i = 1; i < more; i++) {
                methods.method(15, 16);
            }
            due(more + " methods", methods, 7, 0);
        }
        BeanLoom exact = Looms.pair(3, 5);
        exact.function(3, 5, 1, 0);
        exact.function(4, 5, 1, 0);
        exact.function(10, 5, 1, 0);
        due("one just so before others over the table", exact, 0, -1);
        BeanLoom same = Looms.pair(15, 15);
        same.method(15, 15);
        same.method(15, 15);
        due("the same type needs no method", same, 0, -1);
        BeanLoom enums = new BeanLoom();
        enums.enumeration(1, 1);
        enums.enumeration(1, 1);
        enums.bean();
        enums.bean();
        enums.property(17, 1, 15);
        enums.property(18, 1, 16);
        enums.method(17, 18);
        enums.method(15, 16);
        due("one method of enums", enums, 0, -1);
    }

    /** Lists as their values: NO CONVERSION and AMBIGUOUS too, however deep; none between a list and no list. */
    private static void lists() {
        for (int depth = 1; depth < 6; depth++) {
            for (int fault = 0; fault < 8; fault += fault == 0 ? 6 : 1) {
                BeanLoom loom = new BeanLoom();
                loom.bean();
                loom.bean();
                int from = fault == 0 ? 10 : fault == 6 ? 13 : 15;
                int to = fault == 7 ? 16 : 14;
                for (int i = 0; i < depth; i++) {
                    from = loom.list(from);
                    to = loom.list(to);
                }
                loom.property(15, 1, from);
                loom.property(16, 1, to);
                loom.method(15, 16);
                if (fault == 7) {
                    loom.method(15, 16);
                }
                due("lists " + depth + " deep", loom, fault, fault == 0 ? -1 : 0);
            }
        }
        int[][] none = {{15, 14}, {14, 15}, {15, 7}, {7, 15}, {15, 16}, {16, 15}};
        for (int[] types : none) {
            BeanLoom loom = new BeanLoom();
            loom.list(14);
            loom.list(15);
            loom.bean();
            loom.bean();
            loom.property(17, 1, types[0]);
            loom.property(18, 1, types[1]);
            loom.method(17, 18);
            due(types[0] + " to " + types[1], loom, 6, 0);
        }
    }

    /** "of an IGNORED one nothing is looked at, beside CONSTANT no BY and DEFAULT". */
    private static void notLookedAt() {
        BeanLoom loom = Looms.pair(14, 6);
        loom.function(3, 4, 1, 0);
        loom.rule(0, 3, 1, 5);
        loom.rule(0, 4, 1, 0);
        due("a PATH of the name", loom, 6, 0);
        loom.rule(0, 2, 1, 0);
        due("IGNORED", loom, 0, -1);

        BeanLoom nowhere = Looms.pair(14, 6);
        nowhere.property(16, 2, 15);
        nowhere.rule(0, 2, 1, 0);
        nowhere.rule(0, 2, 2, 0);
        nowhere.rule(0, 3, 2, 0);
        due("IGNORED with a DEFAULT that can't be", nowhere, 0, -1);

        BeanLoom constant = Looms.pair(14, 6);
        constant.function(4, 3, 1, 0);
        constant.rule(0, 1, 1, 5);
        constant.rule(0, 4, 1, 0);
        due("CONSTANT, a BY that does not fit", constant, 0, -1);
        constantBeside();
        asALong();

        BeanLoom otherwise = Looms.pair(14, 3);
        otherwise.function(4, 3, 1, 0);
        otherwise.function(4, 3, 1, 0);
        due("without DEFAULT a LONG is not looked at", otherwise, 0, -1);
        otherwise = Looms.pair(14, 3);
        otherwise.function(4, 3, 1, 0);
        otherwise.function(4, 3, 1, 0);
        otherwise.rule(0, 3, 1, 0);
        due("an AMBIGUOUS DEFAULT", otherwise, 7, 0);
        BeanLoom primitive = Looms.pair(5, 5);
        primitive.rule(0, 3, 1, 0);
        due("a DEFAULT that is never taken is looked at", primitive, 6, 0);
        BeanLoom by = Looms.pair(3, 5);
        by.function(3, 5, 1, 0);
        by.rule(0, 4, 1, 0);
        due("BY alone", by, 0, -1);
        by = Looms.pair(3, 5);
        by.function(3, 5, 1, 0);
        by.rule(0, 4, 1, 0);
        by.rule(0, 3, 1, 0);
        due("a DEFAULT beside BY: no function that is not NAMED", by, 6, 0);
    }

    /** "HOW a LONG comes to the type", not an INT, nor what the PATH has. */
    private static void asALong() {
        for (int kind = 1; kind < 4; kind += 2) {
            BeanLoom exact = Looms.pair(5, 5);
            exact.rule(0, kind, 1, 5);
            exact.function(4, 5, 1, 0);
            exact.function(3, 5, 1, 0);
            exact.function(10, 5, 1, 0);
            exact.function(10, 5, 1, 1);
            due("kind " + kind + ": one just from LONG", exact, 0, -1);
            BeanLoom two = Looms.pair(5, 5);
            two.rule(0, kind, 1, 5);
            two.function(3, 5, 1, 0);
            two.function(4, 5, 1, 0);
            two.function(4, 5, 1, 1);
            due("kind " + kind + ": two just from LONG", two, 7, 0);
            BeanLoom box = Looms.pair(5, 5);
            box.rule(0, kind, 1, 5);
            box.function(11, 5, 1, 0);
            box.function(3, 5, 1, 0);
            due("kind " + kind + ": from a LONG's box as from INT", box, 7, 0);
            BeanLoom none = Looms.pair(5, 12);
            none.rule(0, kind, 1, 5);
            due("kind " + kind + ": none to a box of BOOLEAN", none, 6, 0);
        }
    }

    /** A DEFAULT comes as the CONSTANT does, so it can't fail where that goes: it just does nothing. */
    private static void constantBeside() {
        BeanLoom loom = new BeanLoom();
        loom.bean();
        loom.property(15, 1, 3);
        loom.method(15, 15);
        loom.rule(0, 3, 1, 9);
        loom.rule(0, 1, 1, 5);
        due("CONSTANT and DEFAULT", loom, 0, -1);
        loom.make(15, 0);
        CHECK.same("the CONSTANT counts", loom.get(loom.map(0, 0), 0), 5);
    }

    /** "A DIAGNOSIS is the first of these, by methods in their order, in each as here". */
    private static void firstOfThese() {
        BeanLoom all = loom(15, 16);
        all.property(16, 5, 5);
        all.method(17, 18);
        due("5 of a property", all, 5, 2);
        all.rule(0, 0, 5, Looms.path(1));
        due("6 of a property", all, 6, 2);
        all.rule(0, 0, 3, 0);
        due("4 of rule 1 before it", all, 4, 1);
        all.rule(0, 3, 9, 0);
        due("rules as told: 4 of rule 1 before 3 of rule 2", all, 4, 1);
        all.rule(0, 7, 0, 5);
        due("1 before the rules", all, 1, -1);
        all.rule(1, 7, 0, 5);
        due("the first method before the second", all, 1, -1);

        BeanLoom both = loom(15, 16);
        both.rule(0, 3, 9, 0);
        both.rule(0, 3, 9, 0);
        due("3 of rule 0 before 2 of rule 1", both, 3, 0);
        BeanLoom twice = loom(15, 16);
        twice.rule(0, 0, 1, 0);
        twice.rule(0, 0, 1, 0);
        due("4 of rule 0 before 2 of rule 1", twice, 4, 0);
        BeanLoom same = loom(15, 16);
        same.rule(0, 0, 1, 2);
        same.rule(0, 0, 1, 0);
        due("2 before 4 of one rule", same, 2, 1);
        BeanLoom target = loom(15, 16);
        target.rule(0, 0, 9, 0);
        due("3 before 4 of one rule", target, 3, 0);
        BeanLoom by = loom(15, 16);
        by.rule(0, 4, 9, 0);
        due("3 before 4 of BY", by, 3, 0);
        BeanLoom enums = loom(17, 18);
        enums.rule(0, 5, 9, 9);
        due("3 before 4 of enums", enums, 3, 0);

        BeanLoom path = Looms.pair(3, 5);
        path.rule(0, 3, 1, 0);
        path.function(10, 5, 1, 0);
        path.function(11, 5, 1, 0);
        due("the PATH is 7", path, 7, 0);
        path.property(16, 0, 5);
        due("by properties in their order", path, 7, 0);
        BeanLoom order = Looms.pair(13, 5);
        order.function(10, 5, 1, 0);
        order.function(4, 5, 1, 0);
        order.function(4, 5, 1, 0);
        order.rule(0, 3, 1, 0);
        due("PATH, then DEFAULT: both are 7", order, 7, 0);
        BeanLoom first = new BeanLoom();
        first.bean();
        first.property(15, 1, 3);
        first.property(15, 2, 12);
        first.property(15, 3, 14);
        first.method(15, 15);
        first.rule(0, 0, 3, Looms.path(2));
        first.rule(0, 3, 2, 0);
        first.rule(0, 0, 1, Looms.path(2));
        due("6 of the first", first, 6, 0);
        BeanLoom later = new BeanLoom();
        later.bean();
        later.bean();
        later.property(15, 2, 12);
        later.property(16, 2, 12);
        later.property(16, 1, 3);
        later.method(15, 16);
        later.rule(0, 3, 2, 0);
        due("6 of a DEFAULT before 5 of the next property", later, 6, 0);
        later.method(16, 16);
        later.rule(1, 7, 0, 0);
        due("before 1 of the next method", later, 6, 0);
    }

    /** The last method, rule, property and constant that there can be. */
    private static void lastPlaces() {
        BeanLoom loom = new BeanLoom();
        loom.bean();
        loom.bean();
        for (int name = 0; name < 8; name++) {
            loom.property(15, name, 3);
            loom.property(16, name, name == 7 ? 5 : 3);
        }
        loom.enumeration(Looms.names(1, 2, 3, 4, 5, 6, 7, 8), 8);
        loom.enumeration(Looms.names(1, 2, 3, 4, 5, 6, 7, 9), 8);
        for (int method = 0; method < 14; method++) {
            loom.method(15, 15);
        }
        loom.method(17, 18);
        loom.method(15, 16);
        CHECK.diagnosis("the last constant", loom, 5, 14, 7);
        loom.rule(14, 6, 0, -2);
        CHECK.diagnosis("the last property of the last method", loom, 6, 15, 7);
        for (int rule = 0; rule < 23; rule++) {
            loom.rule(15, 8, 0, 0);
        }
        loom.rule(15, 2, 8, 0);
        CHECK.diagnosis("the last rule of the last method", loom, 3, 15, 23);
    }
}
