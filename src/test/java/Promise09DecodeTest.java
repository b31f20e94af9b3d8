/** Promise 9: decode. */
public final class Promise09DecodeTest {
    private static final String ONE = "0100000000000000 01 ";
    private static final String TWO = "0300000000000000 ";
    private static final String NINE_FULL = "ffffffffffffffffff";
    private static final String NINE_NONE = "808080808080808080";

    public static void main(String[] args) {
        codesComeIn();
        endsTooSoon();
        wrongSizes();
        wrongNumbers();
        zeroBehindTheFirstRun();
        moreThanTheCodeHas();
        theFirstWrongOctetCounts();
        cellsStayAndNothingIsFed();
        cellsThatCameInStayToo();
        longestCodeComesIn();
        Check.end();
    }

    private static void codesComeIn() {
        Decoding.dueCells("0000000000000000", 0, "");
        Decoding.dueCells(ONE + "00", 1, "0=0 ");
        Decoding.dueCells(ONE + "01", 1, "0=-1 ");
        Decoding.dueCells(ONE + "02", 1, "0=1 ");
        Decoding.dueCells(ONE + "8001", 1, "0=64 ");
        Decoding.dueCells(ONE + "ff7f", 1, "0=-8192 ");
        Decoding.dueCells(ONE + NINE_NONE + "01", 1, "0=" + (1L << 62) + " ");
        Decoding.dueCells(ONE + "fe" + NINE_FULL.substring(2) + "01", 1, "0=" + Long.MAX_VALUE + " ");
        Decoding.dueCells(ONE + NINE_FULL + "01", 1, "0=" + Long.MIN_VALUE + " ");
        Decoding.dueCells("0806000000000000 02 0a 01 0b", 3, "3=5 9=5 10=-1 ");
        Decoding.dueCells("0100000000000080 02 06", 2, "0=3 63=3 ");
        Decoding.dueCells("0700000000000000 01 0a 01 01 01 02", 3, "0=5 1=4 2=5 ");
        Decoding.dueCells(TWO + "01 fe" + NINE_FULL.substring(2) + "01 01 02", 2,
            "0=" + Long.MAX_VALUE + " 1=" + Long.MIN_VALUE + " ");
    }

    private static void endsTooSoon() {
        Decoding.dueWrong("", 0);
        Decoding.dueWrong("01", 1);
        Decoding.dueWrong("00000000000000", 7);
        Decoding.dueWrong("ffffffffffffff", 7);
        Decoding.dueWrong("0100000000000000", 8);
        Decoding.dueWrong(ONE, 9);
        Decoding.dueWrong(ONE + "80", 10);
        Decoding.dueWrong(ONE + NINE_FULL, 18);
        Decoding.dueWrong(TWO + "01 02", 10);
        Decoding.dueWrong(TWO + "01 02 01", 11);
        Decoding.dueWrong(TWO + "01 02 01 ff", 12);
    }

    private static void wrongSizes() {
        Decoding.dueWrong("0100000000000000 00 00", 8);
        Decoding.dueWrong("0100000000000000 02 00", 8);
        Decoding.dueWrong("0100000000000000 81 00", 8);
        Decoding.dueWrong("0100000000000000 ff 00", 8);
        Decoding.dueWrong(TWO + "01 02 00 02", 10);
        Decoding.dueWrong(TWO + "01 02 02 02", 10);
        Decoding.dueWrong("ffffffffffffffff 41 00", 8);
        Decoding.dueWrong("ffffffffffffffff 3f 00 02 02", 10);
        Decoding.dueCells("00ff000000000000 07 02 01 02", 8, "8=1 9=1 10=1 11=1 12=1 13=1 14=1 15=2 ");
    }

    private static void wrongNumbers() {
        Decoding.dueWrong(ONE + "8000", 10);
        Decoding.dueWrong(ONE + "ff00", 10);
        Decoding.dueWrong(ONE + "ff808000", 12);
        Decoding.dueWrong(ONE + NINE_NONE + "00", 18);
        Decoding.dueWrong(ONE + NINE_FULL + "00", 18);
        Decoding.dueWrong(ONE + NINE_FULL + "02", 18);
        Decoding.dueWrong(ONE + NINE_FULL + "03", 18);
        Decoding.dueWrong(ONE + NINE_FULL + "7f", 18);
        // The tenth octet holds the last bit, so that none can say that one more comes.
        Decoding.dueWrong(ONE + NINE_FULL + "80", 18);
        Decoding.dueWrong(ONE + NINE_FULL + "81", 18);
        Decoding.dueWrong(ONE + NINE_FULL + "8101", 18);
        Decoding.dueWrong(ONE + NINE_FULL + "ff01", 18);
        Decoding.dueWrong(TWO + "01 02 01 8000", 12);
        Decoding.dueWrong(TWO + "01 02 01 " + NINE_FULL + "02", 20);
    }

    private static void zeroBehindTheFirstRun() {
        Decoding.dueWrong(TWO + "01 02 01 00", 11);
        Decoding.dueWrong(TWO + "01 00 01 00", 11);
        Decoding.dueWrong("0700000000000000 01 02 01 02 01 00", 13);
        Decoding.dueWrong("0700000000000000 01 02 01 00 01 00", 11);
        Decoding.dueCells(TWO + "02 00", 2, "0=0 1=0 ");
        Decoding.dueCells(TWO + "01 00 01 01", 2, "0=0 1=-1 ");
        Decoding.dueCells(TWO + "01 02 01 8001", 2, "0=1 1=65 ");
    }

    private static void moreThanTheCodeHas() {
        Decoding.dueWrong("0000000000000000 00", 8);
        Decoding.dueWrong("0000000000000000 01 00", 8);
        Decoding.dueWrong(ONE + "02 00", 10);
        Decoding.dueWrong(ONE + "02 01 02", 10);
        Decoding.dueWrong(TWO + "02 02 01 02", 10);
    }

    private static void theFirstWrongOctetCounts() {
        Decoding.dueWrong(TWO + "03 8000 01 00 00", 8);
        Decoding.dueWrong(TWO + "01 8000 00 00 00", 10);
        Decoding.dueWrong(TWO + "01 02 01 00 00", 11);
    }

    private static void cellsStayAndNothingIsFed() {
        ChunkCode x = Check.chunk(5, 50);
        // Wrong at its very end only, when all but one cell could be read.
        Check.feedHex(x, TWO + "01 02 01");
        Check.dueThrow("decode()", IllegalArgumentException.class, x::decode);
        Check.due("get(5)", x.get(5), 50);
        Check.due("count(0)", x.count(0), 1);
        Check.due("feed", x.feed(0, 8), 8);
        Check.due("decode() of the empty chunk", x.decode(), 0);
        Check.dueThrow("decode() with nothing fed", IllegalArgumentException.class, x::decode);
        Check.due("count(0)", x.count(0), 0);
        // What the wrong codes left behind inside must not show in later cells.
        Check.feedHex(x, "0200000000000000 01 0e");
        Check.due("decode()", x.decode(), 1);
        Check.dueThrow("get(0)", UnsupportedOperationException.class, () -> x.get(0));
        Check.due("get(1)", x.get(1), 7);
        x.put(0, 4);
        Check.due("sum(0, 63)", x.sum(0, 63), 11);
    }

    private static void cellsThatCameInStayToo() {
        ChunkCode x = new ChunkCode();
        for (int times = 0; times < 3; times++) {
            Check.feedHex(x, TWO + "01 0e 01 02");
            Check.due("decode()", x.decode(), 2);
            Check.feedHex(x, "0700000000000000 01 02 01 02 01");
            Check.dueThrow("decode()", IllegalArgumentException.class, x::decode);
            Check.due("count(0)", x.count(0), 2);
            Check.due("get(0)", x.get(0), 7);
            Check.due("get(1)", x.get(1), 8);
        }
    }

    private static void longestCodeComesIn() {
        StringBuilder hex = new StringBuilder("ffffffffffffffff");
        StringBuilder cells = new StringBuilder();
        for (int k = 0; k < 64; k++) {
            hex.append("01").append(NINE_FULL).append("01");
            cells.append(k).append('=').append(k % 2 == 0 ? Long.MIN_VALUE : 0).append(' ');
        }
        Decoding.dueCells(hex.toString(), 64, cells.toString());
        Decoding.dueWrong(hex + "00", 712);
        Decoding.dueWrong(hex.substring(0, 2 * 711), 711);
    }
}
