/** Promise 8, and what "Terms" says of rules, sentence by sentence. */
public final class Edge08RuleTest {
    private static final Check CHECK = new Check();
    private static final int MIN = Integer.MIN_VALUE;
    private static final int MAX = Integer.MAX_VALUE;

    public static void main(String[] args) {
        methodAndKind();
        twentyFourAtMost();
        refusedWhenBuilt();
        anyTargetAndWhat();
        upToThreeNames();
        firstAndLastNames();
        constantsAreLongs();
        named();
        rulesOfEnums();
        targetsNotLookedAt();
        nullBecomesABean();
        inverseOfAFullMethod();
        CHECK.end();
    }

    private static BeanLoom loom() {
        BeanLoom loom = new BeanLoom();
        loom.bean();
        loom.enumeration(0x0201, 2);
        loom.method(15, 15);
        loom.method(16, 16);
        return loom;
    }

    /** "IllegalArgumentException if there is no such method or kind". */
    private static void methodAndKind() {
        BeanLoom loom = loom();
        for (int method : new int[] {-1, 2, 16, MIN, MAX}) {
            CHECK.argument("no method: " + method, loom, () -> loom.rule(method, 8, 0, 1));
        }
        for (int kind : new int[] {-1, 9, 10, 256, MIN, MAX}) {
            CHECK.argument("no kind: " + kind, loom, () -> loom.rule(0, kind, 0, 1));
            CHECK.argument("no kind of enums: " + kind, loom, () -> loom.rule(1, kind, 0, 1));
        }
        CHECK.same("none of them was told", loom.build(), 2);
        CHECK.same("nor counts", loom.map(0, -1), -1);
    }

    /** "IllegalStateException if .. the method has 24": the 24th counts, a 25th does not, and another method has room. */
    private static void twentyFourAtMost() {
        BeanLoom loom = loom();
        for (int rule = 0; rule < 23; rule++) {
            loom.rule(0, 8, 0, 0);
        }
        loom.rule(0, 8, 0, 1);
        CHECK.state("a 25th", loom, () -> loom.rule(0, 8, 0, 0));
        CHECK.state("a 26th", loom, () -> loom.rule(0, 2, 1, 0));
        CHECK.argument("a 25th of no kind", loom, () -> loom.rule(0, 9, 0, 0));
        CHECK.argument("a 25th of no method", loom, () -> loom.rule(2, 8, 0, 0));
        loom.rule(1, 5, 1, 2);
        CHECK.same("24 rules build", loom.build(), 2);
        CHECK.same("the 24th counts", loom.map(0, -1), 0);
        CHECK.same("another method has room", loom.map(1, 0), 1);

        BeanLoom last = loom();
        for (int rule = 0; rule < 23; rule++) {
            last.rule(0, 8, 0, 1);
        }
        last.rule(0, 6, 0, -1);
        CHECK.diagnosis("the 24th is looked at", last, 4, 0, 23);

        // All of a bean's eight properties with three rules each: every one is found among the 24.
        BeanLoom full = new BeanLoom();
        full.bean();
        full.bean();
        full.property(15, 0, 10);
        full.function(10, 3, 2, 0);
        full.method(15, 16);
        for (int name = 0; name < 8; name++) {
            full.property(16, 56 + name, 3);
            full.rule(0, 0, 56 + name, Looms.path(0));
            full.rule(0, 3, 56 + name, 100 + name);
            full.rule(0, 4, 56 + name, 0);
        }
        CHECK.state("a 25th", full, () -> full.rule(0, 8, 0, 1));
        CHECK.same("24 rules", full.build(), 1);
        int source = full.make(15, 0);
        int target = full.map(0, source);
        for (int at = 0; at < 8; at++) {
            CHECK.same("DEFAULT of " + at, full.get(target, at), 100 + at);
        }
        full.put(source, 0, full.make(10, 33));
        target = full.map(0, source);
        for (int at = 0; at < 8; at++) {
            CHECK.same("BY of " + at, full.get(target, at), 66);
        }
    }

    /** "IllegalStateException if it is built". */
    private static void refusedWhenBuilt() {
        BeanLoom loom = loom();
        loom.build();
        CHECK.state("built", loom, () -> loom.rule(0, 8, 0, 1));
        CHECK.state("built, enums", loom, () -> loom.rule(1, 5, 1, 2));
        CHECK.argument("built, no method", loom, () -> loom.rule(2, 8, 0, 1));
        CHECK.argument("built, no kind", loom, () -> loom.rule(0, -1, 0, 1));
        CHECK.same("it does not count", loom.map(0, -1), -1);
        CHECK.same("nor of enums", loom.map(1, 0), 0);
    }

    /** A rule is refused for its method or kind alone: the rest is for build(). */
    private static void anyTargetAndWhat() {
        for (int method = 0; method < 2; method++) {
            BeanLoom loom = loom();
            for (int kind = 0; kind < 9; kind++) {
                loom.rule(method, kind, MIN, Long.MIN_VALUE);
                loom.rule(method, kind, MAX, Long.MAX_VALUE);
            }
            CHECK.argument("build() refuses them", loom::build);
            CHECK.same("the INVERSE first", loom.diagnosis(0), 1);
        }
    }

    /** "up to three names, told as name + 1 in bytes, the lowest first, up to a 0 (a fourth byte is not looked at)". */
    private static void upToThreeNames() {
        long[] paths = {Looms.path(9), Looms.path(0, 9), Looms.path(0, 0, 9), Looms.path(0, 0, 9) | 255L << 24,
            Looms.path(0, 0, 9, 9, 9, 9, 9, 9), Looms.path(9) | 255L << 16, Looms.path(9) | -1L << 32,
            Looms.path(0, 9) | -1L << 24};
        long[] due = {1, 22, 333, 333, 333, 1, 1, 22};
        BeanLoom loom = new BeanLoom();
        loom.bean();
        loom.bean();
        loom.property(15, 0, 15);
        loom.property(15, 9, 3);
        loom.method(15, 16);
        for (int name = 0; name < 8; name++) {
            loom.property(16, name, 3);
            loom.rule(0, 0, name, paths[name]);
        }
        CHECK.same("they build", loom.build(), 1);
        long[] numbers = {333, 22, 1};
        for (int bean = 0; bean < 3; bean++) {
            loom.make(15, 0);
            loom.put(bean, 0, bean - 1);
            loom.put(bean, 1, numbers[bean]);
        }
        int target = loom.map(0, 2);
        for (int at = 0; at < 8; at++) {
            CHECK.same("path " + at, loom.get(target, at), due[at]);
        }
        BeanLoom four = new BeanLoom();
        four.bean();
        four.property(15, 0, 15);
        four.method(15, 15);
        four.rule(0, 0, 0, Looms.path(0, 0, 0, 77));
        four.build();
        for (int bean = 0; bean < 5; bean++) {
            four.make(15, 0);
            four.put(bean, 0, bean - 1);
        }
        CHECK.same("the third, not the fourth", four.get(four.map(0, 4), 0), 1);
    }

    /** "NAMES are 0 .. 63": 0 and 63 as targets, in paths, as constants, and by themselves. */
    private static void firstAndLastNames() {
        BeanLoom loom = new BeanLoom();
        loom.bean();
        loom.bean();
        loom.property(15, 63, 3);
        loom.property(15, 0, 3);
        loom.property(16, 0, 3);
        loom.property(16, 63, 3);
        loom.method(15, 16);
        loom.method(15, 16);
        loom.rule(1, 0, 0, Looms.path(63));
        loom.rule(1, 0, 63, Looms.path(0));
        loom.method(15, 16);
        loom.rule(2, 2, 63, 0);
        loom.rule(2, 1, 0, 5);
        loom.enumeration(Looms.names(0, 63, 7), 3);
        loom.enumeration(Looms.names(63, 0), 2);
        loom.method(17, 18);
        loom.rule(3, 6, 0, 0);
        loom.method(17, 18);
        loom.rule(4, 5, 0, 63);
        loom.rule(4, 5, 63, 0);
        loom.rule(4, 6, 0, 63);
        CHECK.same("they build", loom.build(), 5);
        loom.make(15, 0);
        loom.put(0, 0, 63);
        loom.put(0, 1, 1000);
        int own = loom.map(0, 0);
        CHECK.same("0 from 0", loom.get(own, 0), 1000);
        CHECK.same("63 from 63", loom.get(own, 1), 63);
        int turned = loom.map(1, 0);
        CHECK.same("0 from 63", loom.get(turned, 0), 63);
        CHECK.same("63 from 0", loom.get(turned, 1), 1000);
        int said = loom.map(2, 0);
        CHECK.same("0 is CONSTANT", loom.get(said, 0), 5);
        CHECK.same("63 is IGNORED", loom.get(said, 1), 0);
        CHECK.same("the constant 0 by its name", loom.map(3, 0), 1);
        CHECK.same("the constant 63 by its name", loom.map(3, 1), 0);
        CHECK.same("all others become 0", loom.map(3, 2), 1);
        CHECK.same("0 becomes 63", loom.map(4, 0), 0);
        CHECK.same("63 becomes 0", loom.map(4, 1), 1);
        CHECK.same("all others become 63", loom.map(4, 2), 0);
    }

    /** "1 CONSTANT: a LONG.", "3 DEFAULT: a LONG.": at the ends of its range, cast as a LONG comes to the type. */
    private static void constantsAreLongs() {
        long[] numbers = {0, -1, 1, 127, 128, -129, 32768, 65536, 1L << 31, -(1L << 31) - 1, Long.MAX_VALUE, Long.MIN_VALUE};
        for (long x : numbers) {
            long[] due = {(byte) x, (short) x, (char) x, (int) x, x, 0, Double.doubleToRawLongBits((double) x)};
            for (int kind = 0; kind < 7; kind++) {
                if (kind == 5) {
                    continue;
                }
                BeanLoom loom = Looms.constant(kind, x);
                loom.make(15, 0);
                CHECK.same("CONSTANT " + x + " to " + kind, loom.get(loom.map(0, 0), 0), due[kind]);
                BeanLoom boxed = Looms.constant(kind + 7, x);
                boxed.make(15, 0);
                long box = boxed.get(boxed.map(0, 0), 0);
                CHECK.same("a new box", box, 2);
                CHECK.same("CONSTANT " + x + " to a box of " + kind, boxed.get((int) box, 0), due[kind]);
                BeanLoom otherwise = Looms.pair(14, kind);
                if (kind != 6) {
                    otherwise.rule(0, 3, 1, x);
                    otherwise.build();
                    otherwise.make(15, 0);
                    CHECK.same("DEFAULT " + x + " to " + kind, otherwise.get(otherwise.map(0, 0), 0), due[kind]);
                }
            }
            BeanLoom text = Looms.constant(14, x);
            text.make(15, 0);
            CHECK.text("CONSTANT to TEXT", text, text.get(text.map(0, 0), 0), Long.toString(x));
            BeanLoom same = Looms.pair(14, 14);
            same.rule(0, 3, 1, x);
            same.build();
            same.make(15, 0);
            CHECK.text("DEFAULT to TEXT", same, same.get(same.map(0, 0), 0), Long.toString(x));
        }
    }

    /** "4 BY: a function, which is NAMED then.": wherever it is told, and whichever function it is. */
    private static void named() {
        for (int f = 0; f < 8; f++) {
            BeanLoom loom = new BeanLoom();
            loom.bean();
            loom.bean();
            loom.bean();
            loom.property(15, 1, 3);
            loom.property(16, 1, 4);
            loom.property(17, 1, 4);
            for (int i = 0; i < 8; i++) {
                loom.function(i == f ? 3 : 5, i == f ? 4 : i % 5, 10, i);
            }
            loom.method(15, 16);
            loom.method(15, 17);
            loom.rule(1, 4, 1, f);
            loom.build();
            loom.make(15, 0);
            loom.put(0, 0, 5);
            CHECK.same("NAMED in another method: not by it, but by the table", loom.get(loom.map(0, 0), 0), 5);
            CHECK.same("where it is told", loom.get(loom.map(1, 0), 0), 50 + f);
        }
        BeanLoom free = Looms.pair(3, 4);
        free.function(3, 4, 10, 1);
        free.build();
        free.make(15, 0);
        free.put(0, 0, 5);
        CHECK.same("not NAMED: by it, before the table", free.get(free.map(0, 0), 0), 51);

        BeanLoom one = Looms.pair(3, 4);
        one.function(3, 4, 10, 1);
        one.function(3, 4, 100, 2);
        CHECK.diagnosis("two", one, 7, 0, 0);
        one.bean();
        one.property(17, 1, 4);
        one.method(15, 17);
        one.rule(1, 4, 1, 0);
        CHECK.same("one of two is NAMED: by the other one", one.build(), 2);
        one.make(15, 0);
        one.put(0, 0, 5);
        CHECK.same("the other one", one.get(one.map(0, 0), 0), 502);
        CHECK.same("the NAMED one", one.get(one.map(1, 0), 0), 51);

        BeanLoom over = Looms.pair(3, 5);
        over.function(4, 5, 1, 1);
        over.function(10, 5, 1, 0);
        CHECK.diagnosis("two over the table", over, 7, 0, 0);
        over.bean();
        over.property(15, 2, 4);
        over.property(17, 2, 5);
        over.method(15, 17);
        over.rule(1, 4, 2, 0);
        CHECK.same("one of two is NAMED", over.build(), 2);
        over.make(15, 0);
        over.put(0, 0, 7);
        CHECK.same("over the table by the other one", over.get(over.map(0, 0), 0), 1);
    }

    /** "5 the constant target becomes the constant what (a name, or -1: NULL); 6 all others become what (.. or -2 ..)". */
    private static void rulesOfEnums() {
        for (int first = 0; first < 8; first++) {
            BeanLoom loom = new BeanLoom();
            loom.enumeration(Looms.names(0, 1, 2, 3, 4, 5, 6, 7), 8);
            loom.enumeration(Looms.names(60, 61, 62, 63, 10, 11, 12, 13), 8);
            loom.method(15, 16);
            int[] names = {60, 61, 62, 63, 10, 11, 12, 13};
            loom.rule(0, 5, first, names[7 - first]);
            loom.rule(0, 5, (first + 1) % 8, -1);
            loom.rule(0, 6, 0, first % 2 == 0 ? -2 : 62);
            loom.build();
            for (int place = 0; place < 8; place++) {
                int at = place;
                if (place == first) {
                    CHECK.same("rule 5", loom.map(0, place), 7 - first);
                } else if (place == (first + 1) % 8) {
                    CHECK.same("rule 5: NULL", loom.map(0, place), -1);
                } else if (first % 2 == 0) {
                    CHECK.unsupported("rule 6: it FAILS", loom, () -> loom.map(0, at));
                } else {
                    CHECK.same("rule 6", loom.map(0, place), 2);
                }
            }
            CHECK.same("NULL becomes NULL", loom.map(0, -1), -1);
        }
    }

    /** "The target of 6, 7 and 8 is not looked at; of each of these the latest counts." */
    private static void targetsNotLookedAt() {
        for (int target : new int[] {MIN, -1, 0, 1, 63, 64, MAX}) {
            BeanLoom loom = new BeanLoom();
            loom.enumeration(Looms.names(1, 2), 2);
            loom.enumeration(Looms.names(3, 4), 2);
            loom.bean();
            loom.method(15, 16);
            loom.method(16, 15);
            loom.method(17, 17);
            loom.rule(0, 6, target, -2);
            loom.rule(0, 6, 0, 3);
            loom.rule(0, 6, target, 4);
            loom.rule(1, 6, target, 2);
            loom.rule(1, 6, 1, -1);
            loom.rule(1, 7, target, 99);
            loom.rule(1, 7, target, 0);
            loom.rule(2, 8, 0, 0);
            loom.rule(2, 8, target, 1);
            CHECK.same("target " + target, loom.build(), 3);
            CHECK.same("the latest rule 6: a constant", loom.map(0, 0), 1);
            CHECK.same("for all others", loom.map(0, 1), 1);
            CHECK.same("the latest rule 6: NULL", loom.map(1, 1), -1);
            CHECK.same("the latest rule 8", loom.map(2, -1), 0);
        }
        BeanLoom loom = new BeanLoom();
        loom.bean();
        loom.method(15, 15);
        loom.rule(0, 8, 0, 1);
        loom.rule(0, 8, 1, 0);
        loom.build();
        CHECK.same("the latest rule 8: NULL", loom.map(0, -1), -1);
        BeanLoom turned = new BeanLoom();
        turned.bean();
        turned.bean();
        turned.method(15, 16);
        turned.method(16, 15);
        turned.rule(1, 7, 0, 0);
        turned.rule(1, 7, 0, 2);
        CHECK.diagnosis("the latest INVERSE is of no method", turned, 1, 1, -1);
    }

    /** "8 with what 1: NULL becomes a new bean; else NULL." */
    private static void nullBecomesABean() {
        for (long what : new long[] {0, 2, -1, 3, 257, (1L << 32) + 1, Long.MIN_VALUE, Long.MAX_VALUE, Long.MIN_VALUE + 1}) {
            BeanLoom loom = loom();
            loom.rule(0, 8, 0, what);
            loom.build();
            CHECK.same("what " + what, loom.map(0, -1), -1);
            CHECK.same("none is made", loom.count(3), 0);
        }
        BeanLoom loom = loom();
        loom.rule(0, 8, 0, 1);
        loom.build();
        CHECK.same("what 1", loom.map(0, -1), 0);
        CHECK.same("each time a new one", loom.map(0, -1), 1);
        CHECK.same("of the second type", loom.about(1, 0), 15);
    }

    /** INVERSE of a method that has all its 24 rules: also the last of them tells, and there is none beyond it. */
    private static void inverseOfAFullMethod() {
        BeanLoom loom = new BeanLoom();
        loom.bean();
        loom.bean();
        loom.property(15, 1, 3);
        loom.property(15, 2, 3);
        loom.property(16, 3, 3);
        loom.property(16, 2, 3);
        loom.method(15, 16);
        loom.method(16, 15);
        for (int rule = 0; rule < 22; rule++) {
            loom.rule(0, 8, 0, 0);
        }
        loom.rule(0, 2, 2, 0);
        loom.rule(0, 0, 3, Looms.path(1));
        loom.rule(1, 7, 0, 0);
        CHECK.same("the 24th tells", loom.build(), 2);
        loom.make(16, 0);
        loom.put(0, 0, 30);
        loom.put(0, 1, 20);
        int got = loom.map(1, 0);
        CHECK.same("1 from 3", loom.get(got, 0), 30);
        CHECK.same("2 by its name: no rule of 24 tells it", loom.get(got, 1), 20);

        BeanLoom enums = new BeanLoom();
        enums.enumeration(Looms.names(1, 2), 2);
        enums.enumeration(Looms.names(2, 3), 2);
        enums.method(15, 16);
        enums.method(16, 15);
        for (int rule = 0; rule < 22; rule++) {
            enums.rule(0, 6, 0, -1);
        }
        enums.rule(0, 5, 2, -1);
        enums.rule(0, 5, 1, 3);
        enums.rule(1, 7, 0, 0);
        CHECK.same("the 24th tells", enums.build(), 2);
        CHECK.same("2 by its name: no rule of 24 tells it", enums.map(1, 0), 1);
        CHECK.same("3 from 1", enums.map(1, 1), 0);
    }
}
