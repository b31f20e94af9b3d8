/** Promise 7: code. */
public final class Promise07CodeTest {
    private static final int[] NEVER = {-1, 90, 125, 1 << 29, Integer.MIN_VALUE, Integer.MAX_VALUE};

    public static void main(String[] args) {
        noneBeforeTheFirstEncode();
        wordsAndTheirEnd();
        nothingOfALongerCodeIsLeft();
        Check.end();
    }

    private static void noneBeforeTheFirstEncode() {
        ChunkCode x = Check.chunk(0, 1);
        Check.feedHex(x, "0100000000000000010a");
        x.decode();
        x.count(4);
        Check.dueThrow("code(0)", IndexOutOfBoundsException.class, () -> x.code(0));
        Check.dueThrow("code(1)", IndexOutOfBoundsException.class, () -> x.code(1));
        dueNever(x);
    }

    private static void wordsAndTheirEnd() {
        ChunkCode x = new ChunkCode();
        x.encode();
        Check.due("code(0)", x.code(0), 0);
        Check.dueThrow("code(1) of 8 octets", IndexOutOfBoundsException.class, () -> x.code(1));
        x.put(63, -64);
        x.put(0, 0);
        x.encode();
        Check.due("code(0)", x.code(0), 0x0100000000000080L);
        Check.due("code(1) of 12 octets", x.code(1), 0x0100017f00000000L);
        Check.dueThrow("code(2) of 12 octets", IndexOutOfBoundsException.class, () -> x.code(2));
        x.erase(0, 63);
        x.put(1, 1L << 40);
        x.encode();
        Check.due("code(1) of 15 octets", x.code(1), 0x0180808080804000L);
        x.put(1, 1L << 47);
        Check.due("encode()", x.encode(), 16);
        Check.due("code(1) of 16 octets", x.code(1), 0x0180808080808040L);
        Check.dueThrow("code(2) of 16 octets", IndexOutOfBoundsException.class, () -> x.code(2));
        x.put(1, 1L << 54);
        Check.due("encode()", x.encode(), 17);
        Check.due("code(2) of 17 octets", x.code(2), 0x4000000000000000L);
        Check.dueThrow("code(3) of 17 octets", IndexOutOfBoundsException.class, () -> x.code(3));
        dueNever(x);
    }

    private static void nothingOfALongerCodeIsLeft() {
        ChunkCode x = Check.chunk(0, Long.MIN_VALUE);
        Check.due("encode()", x.encode(), 19);
        x.put(0, -1);
        Check.due("encode()", x.encode(), 10);
        Check.due("code(1) behind a longer code", x.code(1), 0x0101000000000000L);
        Check.dueThrow("code(2) behind a longer code", IndexOutOfBoundsException.class, () -> x.code(2));
    }

    private static void dueNever(ChunkCode x) {
        for (int k : NEVER) {
            Check.dueThrow("code(" + k + ")", IndexOutOfBoundsException.class, () -> x.code(k));
        }
    }
}
