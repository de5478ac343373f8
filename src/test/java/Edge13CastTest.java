/** Promise 13, and what "Terms" says of CAST, sentence by sentence: the ends of the ranges and one beyond them. */
public final class Edge13CastTest {
    private static final Check CHECK = new Check();

    public static void main(String[] args) {
        lowestBits();
        toLongAsItIs();
        toDoubleTheNearest();
        fromDoubleTowards0();
        asToIntThenAsFromThat();
        kindsAlike();
        nulls();
        CHECK.end();
    }

    /** One value from each of the two types of a kind to each of the two of another one. */
    private static void cast(int from, int to, long v, long due) {
        for (int way = 0; way < 4; way++) {
            int a = from + way % 2 * 7;
            int b = to + way / 2 * 7;
            if (a == b) {
                continue;
            }
            BeanLoom loom = Looms.pair(a, b);
            loom.build();
            int source = loom.make(15, 0);
            int given = a < 7 ? -1 : loom.make(a, v);
            loom.put(source, 0, a < 7 ? v : given);
            int before = loom.count(3);
            long got = loom.get(loom.map(0, source), 0);
            CHECK.same("a bean, and a new box if it is one", loom.count(3), before + (b < 7 ? 1 : 2));
            CHECK.same(v + " of " + a + " to " + b, b < 7 ? got : loom.get((int) got, 0), due);
            if (b > 6) {
                CHECK.same("of its type", loom.about((int) got, 0), b);
            }
            if (a > 6) {
                CHECK.same("the source keeps it", loom.get(given, 0), v);
            }
        }
    }

    /** "CAST from whole numbers: to BYTE, SHORT, CHAR, INT the lowest 8, 16, 16, 32 bits (with sign, but CHAR)". */
    private static void lowestBits() {
        for (int bits = 8; bits <= 32; bits *= 2) {
            long half = 1L << bits - 1;
            long all = 1L << bits;
            int to = bits == 8 ? 0 : bits == 16 ? 1 : 3;
            cast(4, to, half - 1, half - 1);
            cast(4, to, half, -half);
            cast(4, to, half + 1, -half + 1);
            cast(4, to, all - 1, -1);
            cast(4, to, all, 0);
            cast(4, to, all + 1, 1);
            cast(4, to, -1, -1);
            cast(4, to, -half, -half);
            cast(4, to, -half - 1, half - 1);
            cast(4, to, -all, 0);
            cast(4, to, -all - 1, -1);
            cast(4, to, Long.MAX_VALUE, -1);
            cast(4, to, Long.MIN_VALUE, 0);
            cast(4, to, 1L << 62 | half, -half);
        }
        cast(4, 2, 65535, 65535);
        cast(4, 2, 65536, 0);
        cast(4, 2, -1, 65535);
        cast(4, 2, -65536, 0);
        cast(4, 2, -65537, 65535);
        cast(4, 2, 32768, 32768);
        cast(4, 2, Long.MAX_VALUE, 65535);
        cast(4, 2, Long.MIN_VALUE, 0);
        cast(3, 0, 128, -128);
        cast(3, 1, 32768, -32768);
        cast(3, 2, -1, 65535);
        cast(3, 2, Integer.MIN_VALUE, 0);
        cast(2, 0, 255, -1);
        cast(2, 0, 65535, -1);
        cast(2, 1, 65535, -1);
        cast(2, 1, 32768, -32768);
        cast(2, 3, 65535, 65535);
        cast(1, 0, -32768, 0);
        cast(1, 0, -129, 127);
        cast(1, 2, -1, 65535);
        cast(1, 2, -32768, 32768);
        cast(1, 3, -32768, -32768);
        cast(0, 1, -128, -128);
        cast(0, 2, -128, 65408);
        cast(0, 2, -1, 65535);
        cast(0, 3, -128, -128);
    }

    /** "to LONG as it is". */
    private static void toLongAsItIs() {
        cast(0, 4, -128, -128);
        cast(0, 4, 127, 127);
        cast(1, 4, -32768, -32768);
        cast(2, 4, 65535, 65535);
        cast(3, 4, Integer.MIN_VALUE, Integer.MIN_VALUE);
        cast(3, 4, Integer.MAX_VALUE, Integer.MAX_VALUE);
    }

    /** "to DOUBLE the nearest" (of two that are as near: the even one, as everywhere in Java). */
    private static void toDoubleTheNearest() {
        long[] numbers = {0, 1, -1, 2, 3, 255, 65535, Integer.MAX_VALUE, Integer.MIN_VALUE, (1L << 52) - 1, 1L << 52,
            (1L << 52) + 1, (1L << 53) - 1, 1L << 53, (1L << 53) + 1, (1L << 53) + 2, (1L << 53) + 3, (1L << 53) + 5,
            (1L << 54) - 1, (1L << 54) + 1, (1L << 54) + 2, (1L << 54) + 3, (1L << 54) + 5, (1L << 54) + 6, (1L << 54) + 7,
            (1L << 60) - 1, (1L << 62) - 1, (1L << 62) + 255, (1L << 62) + 256, (1L << 62) + 257, (1L << 62) + 767,
            (1L << 62) + 768, (1L << 62) + 769, Long.MAX_VALUE, Long.MAX_VALUE - 511, Long.MAX_VALUE - 512,
            Long.MAX_VALUE - 513, Long.MIN_VALUE, Long.MIN_VALUE + 1, Long.MIN_VALUE + 511, Long.MIN_VALUE + 512,
            Long.MIN_VALUE + 513};
        for (long v : numbers) {
            cast(4, 6, v, Double.doubleToRawLongBits((double) v));
            cast(4, 6, -v, Double.doubleToRawLongBits((double) -v));
        }
        cast(0, 6, -128, Double.doubleToRawLongBits(-128));
        cast(1, 6, -32768, Double.doubleToRawLongBits(-32768));
        cast(2, 6, 65535, Double.doubleToRawLongBits(65535));
        cast(3, 6, Integer.MIN_VALUE, Double.doubleToRawLongBits(Integer.MIN_VALUE));
        cast(3, 6, 0, 0);
    }

    private static void real(double v, int to, long due) {
        cast(6, to, Double.doubleToRawLongBits(v), due);
    }

    /** "From DOUBLE: to LONG and INT towards 0, beyond the range its end". */
    private static void fromDoubleTowards0() {
        double[] small = {0.0, -0.0, Double.MIN_VALUE, -Double.MIN_VALUE, 0.5, -0.5, Math.nextDown(1.0), -Math.nextDown(1.0)};
        for (double v : small) {
            real(v, 3, 0);
            real(v, 4, 0);
        }
        for (int to = 3; to < 5; to++) {
            real(1, to, 1);
            real(-1, to, -1);
            real(Math.nextDown(2.0), to, 1);
            real(-Math.nextDown(2.0), to, -1);
            real(2.5, to, 2);
            real(-2.5, to, -2);
            real(Integer.MAX_VALUE, to, Integer.MAX_VALUE);
            real(Integer.MIN_VALUE, to, Integer.MIN_VALUE);
            real(Math.nextDown(2147483648.0), to, Integer.MAX_VALUE);
            real(Math.nextUp(-2147483649.0), to, Integer.MIN_VALUE);
        }
        real(2147483648.0, 3, Integer.MAX_VALUE);
        real(2147483648.0, 4, 2147483648L);
        real(-2147483649.0, 3, Integer.MIN_VALUE);
        real(-2147483649.0, 4, -2147483649L);
        double most = 9223372036854775808.0;
        real(Math.nextDown(most), 4, Long.MAX_VALUE - 1023);
        real(most, 4, Long.MAX_VALUE);
        real(Math.nextUp(most), 4, Long.MAX_VALUE);
        real(-most, 4, Long.MIN_VALUE);
        real(Math.nextUp(-most), 4, Long.MIN_VALUE + 1024);
        real(Math.nextDown(-most), 4, Long.MIN_VALUE);
        for (double v : new double[] {most, 1e300, Double.MAX_VALUE, Double.POSITIVE_INFINITY}) {
            real(v, 3, Integer.MAX_VALUE);
            real(v, 4, Long.MAX_VALUE);
            real(-v, 3, Integer.MIN_VALUE);
            real(-v, 4, Long.MIN_VALUE);
        }
        for (int exponent = 1; exponent < 63; exponent++) {
            double power = (double) (1L << exponent);
            real(power, 4, 1L << exponent);
            real(-power, 4, -(1L << exponent));
            real(Math.nextDown(power), 4, (long) Math.nextDown(power));
            real(Math.nextUp(power), 4, (long) Math.nextUp(power));
        }
    }

    /** "to BYTE, SHORT, CHAR as to INT, then as from that." */
    private static void asToIntThenAsFromThat() {
        real(127.9, 0, 127);
        real(128, 0, -128);
        real(-128.9, 0, -128);
        real(-129, 0, 127);
        real(255.9, 0, -1);
        real(256, 0, 0);
        real(32767.9, 1, 32767);
        real(32768, 1, -32768);
        real(-32768.9, 1, -32768);
        real(-32769, 1, 32767);
        real(65535.9, 2, 65535);
        real(65536, 2, 0);
        real(-0.9, 2, 0);
        real(-1, 2, 65535);
        for (double v : new double[] {2147483647.0, 2147483648.0, 4294967296.0, 1e18, 1e300, Double.POSITIVE_INFINITY}) {
            real(v, 0, -1);
            real(v, 1, -1);
            real(v, 2, 65535);
        }
        for (double v : new double[] {-2147483648.0, -2147483649.0, -4294967297.0, -1e18, -1e300, Double.NEGATIVE_INFINITY}) {
            real(v, 0, 0);
            real(v, 1, 0);
            real(v, 2, 0);
        }
        real(2147483646.0, 0, -2);
        real(2147483646.0, 2, 65534);
    }

    /** "Kinds alike": what the box has, or the value. */
    private static void kindsAlike() {
        long[][] values = {{-128, 127}, {-32768, 32767}, {0, 65535}, {Integer.MIN_VALUE, Integer.MAX_VALUE},
            {Long.MIN_VALUE, Long.MAX_VALUE}, {0, 1}, {Long.MIN_VALUE, 0x7ff0000000000000L}};
        for (int kind = 0; kind < 7; kind++) {
            for (long v : values[kind]) {
                cast(kind, kind, v, v);
            }
        }
        cast(6, 6, 0xfff0000000000000L, 0xfff0000000000000L);
        cast(6, 6, 1, 1);
    }

    /** "(each NULL becomes the EMPTY value of B)". */
    private static void nulls() {
        for (int from = 7; from < 14; from++) {
            for (int to = 0; to < 14; to++) {
                int a = from % 7;
                int b = to % 7;
                if (from == to || a != b && (a == 5 || b == 5)) {
                    continue;
                }
                BeanLoom loom = Looms.pair(from, to);
                loom.build();
                loom.make(15, 0);
                CHECK.same("NULL of " + from + " to " + to, loom.get(loom.map(0, 0), 0), to < 7 ? 0 : -1);
                CHECK.same("no box is made", loom.count(3), 2);
            }
        }
    }
}
