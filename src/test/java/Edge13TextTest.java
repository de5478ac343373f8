/** Promise 13, and what "Terms" says of the table's rows to and from TEXT, sentence by sentence. */
public final class Edge13TextTest {
    private static final Check CHECK = new Check();
    private static final long[][] RANGES = {{-128, 127}, {-32768, 32767}, {0, 65535}, {Integer.MIN_VALUE, Integer.MAX_VALUE},
        {Long.MIN_VALUE, Long.MAX_VALUE}, {0, 1}};

    public static void main(String[] args) {
        digits();
        oneCharacter();
        trueOrFalse();
        endsOfTheRanges();
        perhapsAMinusThenDigits();
        theOnlyCharacter();
        justTrue();
        namesOfConstants();
        constantsThatHaveThisText();
        nullsBecomeEmpty();
        CHECK.end();
    }

    /** A value of a type as a TEXT: of a box's, if the type is one. */
    private static void toText(int from, long v, String due) {
        BeanLoom loom = Looms.pair(from, 14);
        loom.build();
        int source = loom.make(15, 0);
        loom.put(source, 0, from < 7 ? v : loom.make(from, v));
        int before = loom.count(3);
        int target = loom.map(0, source);
        CHECK.text(from + " to TEXT", loom, loom.get(target, 0), due);
        CHECK.same("a bean and a text", loom.count(3), before + 2);
    }

    /** "the digits of the number, with a - ahead if it is below 0". */
    private static void digits() {
        for (int kind = 0; kind < 5; kind++) {
            if (kind == 2) {
                continue;
            }
            for (int box = 0; box < 14; box += 7) {
                long[] numbers = {0, 1, -1, 9, 10, -9, -10, 99, 100, -100, RANGES[kind][0], RANGES[kind][0] + 1,
                    RANGES[kind][1] - 1, RANGES[kind][1]};
                for (long v : numbers) {
                    toText(kind + box, v, Long.toString(v));
                }
            }
        }
        long ten = 1;
        for (int length = 1; length <= 18; length++) {
            ten *= 10;
            toText(4, ten, Long.toString(ten));
            toText(4, ten - 1, Long.toString(ten - 1));
            toText(4, -ten, Long.toString(-ten));
        }
    }

    /** "of CHAR that one character". */
    private static void oneCharacter() {
        for (int sign : new int[] {0, 1, '0', '-', 'n', 127, 128, 255, 256, 32767, 32768, 65534, 65535}) {
            toText(2, sign, String.valueOf((char) sign));
            toText(9, sign, String.valueOf((char) sign));
        }
    }

    /** "of BOOLEAN true or false". */
    private static void trueOrFalse() {
        for (int type = 5; type < 13; type += 7) {
            toText(type, 0, "false");
            toText(type, 1, "true");
        }
    }

    /** What a text becomes; where nothing is due, the map() FAILS. */
    private static void fromText(BeanLoom loom, int text, int to, String what, String due) {
        int source = loom.make(15, 0);
        loom.put(source, 0, text);
        if (due.isEmpty()) {
            CHECK.unsupported(what + " to " + to + " FAILS", loom, () -> loom.map(0, source));
            return;
        }
        int before = loom.count(3);
        int target = loom.map(0, source);
        long got = loom.get(target, 0);
        CHECK.same("a box is new", loom.count(3), before + (to < 7 ? 1 : 2));
        CHECK.same(what + " to " + to, to < 7 ? got : loom.get((int) got, 0), Long.parseLong(due));
        if (to > 6) {
            CHECK.same("of its type", loom.about((int) got, 0), to);
        }
    }

    private static void fromWord(int to, String word, String due) {
        BeanLoom loom = Looms.pair(14, to);
        loom.build();
        fromText(loom, loom.make(14, Looms.bytes(word)), to, "'" + word + "'", due);
    }

    /** A text of the digits of a number, also of more than 8 of them, by a method from a LONG. */
    private static void fromNumber(int to, long number, String due) {
        BeanLoom loom = Looms.pair(14, to);
        loom.bean();
        loom.bean();
        loom.property(17, 1, 4);
        loom.property(18, 1, 14);
        loom.method(17, 18);
        loom.build();
        int text = Looms.digits(loom, 1, loom.make(17, 0), number);
        fromText(loom, text, to, "the digits of " + number, due);
    }

    /** "FAILS if it is not so, or out of range." */
    private static void endsOfTheRanges() {
        for (int kind = 0; kind < 5; kind++) {
            if (kind == 2) {
                continue;
            }
            long least = RANGES[kind][0];
            long most = RANGES[kind][1];
            for (int box = 0; box < 14; box += 7) {
                for (long v : new long[] {least, least + 1, 0, most - 1, most}) {
                    fromNumber(kind + box, v, Long.toString(v));
                }
                if (kind < 4) {
                    for (long v : new long[] {least - 1, most + 1, 2 * least, 10 * most, 1L << 32, Long.MIN_VALUE,
                        Long.MAX_VALUE}) {
                        fromNumber(kind + box, v, "");
                    }
                }
            }
        }
        // Each length that a LONG's digits can have.
        long ten = 1;
        for (int length = 1; length <= 18; length++) {
            ten *= 10;
            fromNumber(4, ten - 1, Long.toString(ten - 1));
            fromNumber(4, -ten, Long.toString(-ten));
            fromNumber(3, ten, ten > Integer.MAX_VALUE ? "" : Long.toString(ten));
        }
    }

    /** "else perhaps a -, then digits, one at least, nothing else". */
    private static void perhapsAMinusThenDigits() {
        String[] good = {"0", "9", "-0", "00", "007", "-007", "-1", "00000000", "-0000000", "00000127", "-0000128"};
        long[] due = {0, 9, 0, 0, 7, -7, -1, 0, 0, 127, -128};
        String[] wrong = {"", "-", "--1", "+1", "1-", "1-1", "-+1", "- 1", " 1", "1 ", "1.", "1.0", "1e1", "0x1", "1L", "a", "1a",
            "a1", "/", ":", "1/", "1:", "/1", ":1", "1/1", "1:1", "\u00b2", "1\u00b2", "\u00e0", "true", "n1", "-a", "-/", "-:"};
        for (int kind = 0; kind < 5; kind++) {
            if (kind == 2) {
                continue;
            }
            for (int i = 0; i < good.length; i++) {
                fromWord(kind + i % 2 * 7, good[i], Long.toString(due[i]));
            }
            for (int i = 0; i < wrong.length; i++) {
                fromWord(kind + i % 2 * 7, wrong[i], "");
            }
        }
        fromWord(0, "128", "");
        fromWord(0, "-129", "");
        fromWord(0, "0128", "");
        fromWord(1, "32768", "");
        fromWord(1, "-32769", "");
        fromWord(3, "99999999", "99999999");
        fromWord(3, "-9999999", "-9999999");
        // A character beyond the bytes, whose lowest bits are a digit's.
        for (int sign : new int[] {'0' + 256, '0' + 65280, '-' + 256, 0, 65535}) {
            BeanLoom loom = fromChar(3);
            fromText(loom, Looms.digits(loom, 1, 0, sign), 3, "character " + sign, "");
        }
    }

    /** "CHAR: the only character, FAILS if there is not one". */
    private static void theOnlyCharacter() {
        for (int to = 2; to < 10; to += 7) {
            fromWord(to, "", "");
            fromWord(to, "x", "120");
            fromWord(to, "7", "55");
            fromWord(to, "-", "45");
            fromWord(to, "\u00ff", "255");
            fromWord(to, "\u0001", "1");
            fromWord(to, "xy", "");
            fromWord(to, "12345678", "");
            for (int sign : new int[] {0, 255, 256, 32768, 65535}) {
                BeanLoom loom = fromChar(to);
                fromText(loom, Looms.digits(loom, 1, 0, sign), to, "character " + sign, Integer.toString(sign));
            }
        }
    }

    /** TEXT to a type by method 0, and CHAR to TEXT by method 1, of bean 17, of which there is one. */
    private static BeanLoom fromChar(int to) {
        BeanLoom loom = Looms.pair(14, to);
        loom.bean();
        loom.bean();
        loom.property(17, 1, 2);
        loom.property(18, 1, 14);
        loom.method(17, 18);
        loom.build();
        loom.make(17, 0);
        return loom;
    }

    /** "BOOLEAN 1, if it is just true, else 0". */
    private static void justTrue() {
        String[] others = {"", "t", "tr", "tru", "truex", "true ", " true", "True", "tRue", "trUe", "truE", "TRUE", "urue", "tsue",
            "trve", "truf", "true\u0001", "eurt", "truetrue", "false", "1", "0", "-1", "n1", "yes"};
        for (int to = 5; to < 13; to += 7) {
            fromWord(to, "true", "1");
            for (String word : others) {
                fromWord(to, word, "0");
            }
        }
    }

    private static BeanLoom enums(int from, int to, long names, int n) {
        BeanLoom loom = new BeanLoom();
        loom.enumeration(names, n);
        loom.bean();
        loom.bean();
        loom.property(16, 1, from);
        loom.property(17, 1, to);
        loom.method(16, 17);
        loom.build();
        return loom;
    }

    /** "From an enum to TEXT: n and the digits of the constant's name." */
    private static void namesOfConstants() {
        for (int first = 0; first < 64; first += 8) {
            long names = Looms.names(first, first + 1, first + 2, first + 3, first + 4, first + 5, first + 6, first + 7);
            BeanLoom loom = enums(15, 14, names, 8);
            int source = loom.make(16, 0);
            for (int place = 0; place < 8; place++) {
                loom.put(source, 0, place);
                CHECK.text("to TEXT", loom, loom.get(loom.map(0, source), 0), "n" + (first + place));
            }
            loom.put(source, 0, -1);
            CHECK.same("NULL: EMPTY", loom.get(loom.map(0, source), 0), -1);
        }
    }

    /** "From TEXT to an enum: the constant that has this text; FAILS if there is none." */
    private static void constantsThatHaveThisText() {
        for (int first = 0; first < 64; first += 8) {
            long names = Looms.names(first, first + 1, first + 2, first + 3, first + 4, first + 5, first + 6, first + 7);
            for (int name = first - 2; name < first + 10; name++) {
                BeanLoom loom = enums(14, 15, names, 8);
                int source = loom.make(16, 0);
                loom.put(source, 0, loom.make(14, Looms.bytes("n" + name)));
                if (name < first || name >= first + 8) {
                    CHECK.unsupported("n" + name + " is none", loom, () -> loom.map(0, source));
                } else {
                    CHECK.same("n" + name, loom.get(loom.map(0, source), 0), name - first);
                }
            }
        }
        String[] none = {"", "n", "1", "12", "N1", "n01", "n1 ", " n1", "n012", "n112", "n120", "nn1", "m1", "o1", "n-1", "n1n", "n9",
            "n11", "n13", "n21", "n22", "n2", "n3", "n1\u0001", "n\u0131", "n/", "n:", "n1/", "n1:", "n02", "n0", "n00"};
        for (String word : none) {
            BeanLoom loom = enums(14, 15, Looms.names(1, 12), 2);
            int source = loom.make(16, 0);
            loom.put(source, 0, loom.make(14, Looms.bytes(word)));
            CHECK.unsupported("'" + word + "' is none", loom, () -> loom.map(0, source));
        }
    }

    /** "(each NULL becomes the EMPTY value of B)". */
    private static void nullsBecomeEmpty() {
        for (int type = 0; type < 13; type++) {
            if (type == 6) {
                continue;
            }
            BeanLoom loom = Looms.pair(14, type);
            loom.build();
            loom.make(15, 0);
            CHECK.same("NULL to " + type, loom.get(loom.map(0, 0), 0), type < 7 ? 0 : -1);
            CHECK.same("no box", loom.count(3), 2);
            if (type > 6) {
                BeanLoom back = Looms.pair(type, 14);
                back.build();
                back.make(15, 0);
                CHECK.same("NULL of " + type, back.get(back.map(0, 0), 0), -1);
                CHECK.same("no text", back.count(3), 2);
            }
        }
        BeanLoom loom = enums(14, 15, 1, 1);
        loom.make(16, 0);
        CHECK.same("NULL to an enum", loom.get(loom.map(0, 0), 0), -1);
    }
}
