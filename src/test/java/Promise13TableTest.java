/** Promise 13, the table: each kind to each other one, to and from texts. */
public final class Promise13TableTest {
    private static final Check CHECK = new Check();
    private static final String[] NAMES = {"BYTE", "SHORT", "CHAR", "INT", "LONG", "BOOLEAN", "DOUBLE"};
    private static final long[] NUMBERS = {0, 1, -1, 9, 10, 127, 128, -128, -129, 255, 256, 32767, 32768, -32768, -32769,
        65535, 65536, Integer.MAX_VALUE, Integer.MAX_VALUE + 1L, Integer.MIN_VALUE, Integer.MIN_VALUE - 1L, 1L << 52,
        (1L << 53) - 1, 1L << 53, (1L << 53) + 1, (1L << 53) + 2, (1L << 53) + 3, -(1L << 53) - 1, (1L << 54) + 2,
        (1L << 54) + 6, (1L << 62) + 255, (1L << 62) + 256, (1L << 62) + 257, (1L << 62) + 768, Long.MAX_VALUE,
        Long.MAX_VALUE - 511, Long.MAX_VALUE - 512, Long.MIN_VALUE, Long.MIN_VALUE + 1, Long.MIN_VALUE + 1024};
    private static final double[] REALS = {0.0, -0.0, 0.5, -0.5, 0.9999999999999999, 1, -1, 1.5, -1.5, 127.99, 128, 255.5,
        -128.9, -129, 32767.9, 32768, 65535.9, 65536, -32769, 2147483647.0, 2147483647.9, 2147483648.0, -2147483648.9,
        -2147483649.0, 1e10, -1e10, 4503599627370495.5, 4503599627370496.0, 9007199254740993.0, 4.611686018427388e18,
        9.223372036854775e18, 9.223372036854775807e18, 1e19, -9.223372036854775808e18, -1e19, 1e300, -1e300,
        Double.MIN_VALUE, Double.MAX_VALUE, Double.POSITIVE_INFINITY, Double.NEGATIVE_INFINITY, 2.2250738585072014e-308};

    private static BeanLoom loom;
    private static int object;

    public static void main(String[] args) {
        for (int from = 0; from < 14; from++) {
            for (int to = 0; to < 14; to++) {
                if (from != to) {
                    kinds(from, to);
                }
            }
            text(from);
        }
        texts();
        CHECK.end();
    }

    /** A loom that maps one property of a type to another one; false if it can't. */
    private static boolean weave(int from, int to) {
        loom = new BeanLoom();
        loom.bean();
        loom.bean();
        loom.property(15, 1, from);
        loom.property(16, 1, to);
        loom.method(15, 16);
        boolean good = true;
        try {
            loom.build();
        } catch (IllegalArgumentException e) {
            good = false;
        }
        object = loom.make(15, 0);
        return good;
    }

    private static void give(int from, long v) {
        CHECK.yes("put", loom.put(object, 0, from < 7 ? v : loom.make(from, v)));
    }

    private static long taken(int to) {
        long v = loom.get(loom.map(0, object), 0);
        if (to < 7) {
            return v;
        }
        CHECK.same("a new box", loom.about((int) v, 0), to);
        CHECK.same("the latest object", v, loom.count(3) - 1);
        return loom.get((int) v, 0);
    }

    private static long[] values(int kind) {
        if (kind == 6) {
            long[] bits = new long[REALS.length];
            for (int i = 0; i < bits.length; i++) {
                bits[i] = Double.doubleToRawLongBits(REALS[i]);
            }
            return bits;
        }
        long[] values = NUMBERS.clone();
        for (int i = 0; i < values.length; i++) {
            values[i] = cast(kind, values[i]);
        }
        return values;
    }

    private static long cast(int kind, long x) {
        return switch (kind) {
            case 0 -> (byte) x;
            case 1 -> (short) x;
            case 2 -> (char) x;
            case 3 -> (int) x;
            case 4 -> x;
            case 5 -> x & 1;
            default -> Double.doubleToRawLongBits((double) x);
        };
    }

    private static long cast(int kind, double x) {
        return switch (kind) {
            case 0 -> (byte) x;
            case 1 -> (short) x;
            case 2 -> (char) x;
            case 3 -> (int) x;
            case 4 -> (long) x;
            default -> Double.doubleToRawLongBits(x);
        };
    }

    private static void kinds(int from, int to) {
        int a = from % 7;
        int b = to % 7;
        boolean good = weave(from, to);
        String what = NAMES[a] + " " + from + " to " + NAMES[b] + " " + to;
        CHECK.same(what, good ? 1 : 0, a == b || a != 5 && b != 5 ? 1 : 0);
        if (!good) {
            CHECK.same(what + ": NO CONVERSION", loom.diagnosis(0), 6);
            return;
        }
        if (from > 6) {
            CHECK.same(what + ": NULL", loom.get(loom.map(0, object), 0), to < 7 ? 0 : -1);
        }
        for (long v : values(a)) {
            give(from, v);
            long due = a == 6 ? cast(b, Double.longBitsToDouble(v)) : cast(b, v);
            CHECK.same(what + " of " + v, taken(to), due);
        }
    }

    private static void text(int from) {
        int kind = from % 7;
        boolean good = weave(from, 14);
        CHECK.same(NAMES[kind] + " to TEXT", good ? 1 : 0, kind == 6 ? 0 : 1);
        if (!good) {
            CHECK.no("nor from TEXT", weave(14, from));
            CHECK.same("NO CONVERSION", loom.diagnosis(0), 6);
            return;
        }
        if (from > 6) {
            CHECK.same("NULL to TEXT", loom.get(loom.map(0, object), 0), -1);
        }
        for (long v : values(kind)) {
            weave(from, 14);
            give(from, v);
            String due = kind == 2 ? String.valueOf((char) v) : kind == 5 ? String.valueOf(v == 1) : String.valueOf(v);
            CHECK.text("of " + v, loom, loom.get(loom.map(0, object), 0), due);
        }
    }

    private static void texts() {
        for (int to = 0; to < 14; to++) {
            int kind = to % 7;
            if (kind == 6) {
                continue;
            }
            CHECK.yes("from TEXT to " + NAMES[kind], weave(14, to));
            CHECK.same("NULL", loom.get(loom.map(0, object), 0), to < 7 ? 0 : -1);
            String[] words = {"", "-", "0", "-0", "00", "7", "-7", "0007", "127", "128", "-128", "-129", "32767", "32768",
                "-32768", "-32769", "65535", "65536", "99999999", "-9999999", "+7", "7 ", " 7", "7a", "a7", "--7", "7-",
                "/", ":", "a", "\u00e9", "true", "TRUE", "True", "true ", "tru", "false", "1", "-1", "\u00b2"};
            for (String word : words) {
                fromWord(to, kind, word);
            }
            longTexts(to, kind);
        }
    }

    private static void fromWord(int to, int kind, String word) {
        long bytes = 0;
        for (int i = 0; i < word.length(); i++) {
            bytes |= (long) word.charAt(i) << 8 * i;
        }
        loom.put(object, 0, loom.make(14, bytes));
        due(to, kind, word);
    }

    private static void due(int to, int kind, String word) {
        Long due = parsed(kind, word);
        String what = "'" + word + "' to " + NAMES[kind];
        if (due == null) {
            CHECK.unsupported(what, () -> loom.map(0, object));
        } else {
            CHECK.same(what, taken(to), due);
        }
    }

    private static Long parsed(int kind, String word) {
        if (kind == 5) {
            return word.equals("true") ? 1L : 0L;
        }
        if (kind == 2) {
            return word.length() == 1 ? (Long) (long) word.charAt(0) : null;
        }
        if (!word.matches("-?[0-9]+")) {
            return null;
        }
        java.math.BigInteger x = new java.math.BigInteger(word);
        return x.bitLength() > 63 || cast(kind, x.longValue()) != x.longValue() ? null : (Long) x.longValue();
    }

    /** Texts of more than 8 characters come from LONGs alone. */
    private static void longTexts(int to, int kind) {
        BeanLoom one = new BeanLoom();
        one.bean();
        one.bean();
        one.bean();
        one.property(15, 1, 4);
        one.property(16, 1, 14);
        one.property(17, 1, to);
        one.method(15, 16);
        one.method(16, 17);
        one.build();
        int source = one.make(15, 0);
        long[] values = {Long.MAX_VALUE, Long.MIN_VALUE, Integer.MAX_VALUE, Integer.MAX_VALUE + 1L, Integer.MIN_VALUE,
            Integer.MIN_VALUE - 1L, 1000000000000000000L, -9000000000000000000L};
        for (long v : values) {
            one.put(source, 0, v);
            int middle = one.map(0, source);
            Long due = parsed(kind, String.valueOf(v));
            if (due == null) {
                CHECK.unsupported(v + " over a text", () -> one.map(1, middle));
            } else {
                long got = one.get(one.map(1, middle), 0);
                CHECK.same(v + " over a text", to < 7 ? got : one.get((int) got, 0), due);
            }
        }
    }
}
