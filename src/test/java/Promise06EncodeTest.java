/** Promise 6: encode, and what THE CODE is. */
public final class Promise06EncodeTest {
    public static void main(String[] args) {
        mask();
        numbers();
        runs();
        longestCode();
        codeStaysUntilEncodedAgain();
        Check.end();
    }

    private static void dueCode(String want, ChunkCode x) {
        String digits = want.replace(" ", "");
        Check.due("encode() for " + want, x.encode(), digits.length() / 2);
        Check.due("code", Check.hexOfMade(x), digits);
    }

    private static void mask() {
        dueCode("0000000000000000", new ChunkCode());
        for (int k = 0; k < 64; k++) {
            byte[] octets = new byte[10];
            octets[k / 8] = (byte) (1 << k % 8);
            octets[8] = 1;
            dueCode(Check.hexOf(octets), Check.chunk(k, 0));
        }
    }

    private static void numbers() {
        String one = "0100000000000000 01 ";
        dueCode(one + "00", Check.chunk(0, 0));
        dueCode(one + "01", Check.chunk(0, -1));
        dueCode(one + "02", Check.chunk(0, 1));
        dueCode(one + "7f", Check.chunk(0, -64));
        dueCode(one + "8001", Check.chunk(0, 64));
        dueCode(one + "ff7f", Check.chunk(0, -8192));
        dueCode(one + "808001", Check.chunk(0, 8192));
        dueCode(one + "ffffffffffffffff7f", Check.chunk(0, -(1L << 62)));
        dueCode(one + "80808080808080808001", Check.chunk(0, 1L << 62));
        dueCode(one + "feffffffffffffffff01", Check.chunk(0, Long.MAX_VALUE));
        dueCode(one + "ffffffffffffffffff01", Check.chunk(0, Long.MIN_VALUE));
    }

    private static void runs() {
        dueCode("0806000000000000 02 0a 01 0b", Check.chunk(3, 5, 9, 5, 10, -1));
        dueCode("0700000000000000 01 0a 01 01 01 02", Check.chunk(0, 5, 1, 4, 2, 5));
        dueCode("0100000000000080 02 06", Check.chunk(0, 3, 63, 3));
        dueCode("0300000000000000 01 00 01 02", Check.chunk(0, 0, 1, 1));
        // From the highest number to the lowest it is one step up, as it wraps.
        dueCode("0300000000000000 01 feffffffffffffffff01 01 02",
            Check.chunk(0, Long.MAX_VALUE, 1, Long.MIN_VALUE));
        ChunkCode same = new ChunkCode();
        for (int k = 0; k < 64; k++) {
            same.put(k, -7);
        }
        dueCode("ffffffffffffffff 40 0d", same);
        ChunkCode between = Check.chunk(0, 1, 1, 9, 2, 1);
        between.erase(1, 1);
        dueCode("0500000000000000 02 02", between);
    }

    private static void longestCode() {
        ChunkCode x = new ChunkCode();
        StringBuilder want = new StringBuilder("ffffffffffffffff");
        for (int k = 0; k < 64; k++) {
            x.put(k, k % 2 == 0 ? Long.MIN_VALUE : 0);
            want.append("01ffffffffffffffffff01");
        }
        dueCode(want.toString(), x);
        Check.due("longest code", x.count(3), 712);
        Check.due("last word of it", x.code(88), 0xffffffffffffff01L);
    }

    private static void codeStaysUntilEncodedAgain() {
        ChunkCode x = Check.chunk(0, 5);
        x.encode();
        String old = "0100000000000000010a";
        x.put(1, 6);
        x.erase(0, 0);
        Check.due("code behind put and erase", Check.hexOfMade(x), old);
        Check.feedHex(x, "00 00 00 00 00 00 00 00");
        x.decode();
        Check.due("code behind decode", Check.hexOfMade(x), old);
        x.count(1);
        x.count(4);
        Check.due("code behind count", Check.hexOfMade(x), old);
        Check.due("encode() again, of fewer octets", x.encode(), 8);
        Check.due("code", Check.hexOfMade(x), "0000000000000000");
        Check.dueThrow("code(1)", IndexOutOfBoundsException.class, () -> x.code(1));
        x.put(7, -1);
        Check.due("encode() again, of more", x.encode(), 10);
        Check.due("what the first code held is gone", x.code(1), 0x0101000000000000L);
    }
}
