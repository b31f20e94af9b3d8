/** The boundaries that promises 9 and 10 name: decode and wrong. */
public final class BoundaryDecodeTest {
    private static final String NO_CELLS = "0000000000000000";
    private static final String ONE = "0100000000000000";
    private static final String TWO = "0300000000000000";
    private static final String ALL = "ffffffffffffffff";
    private static final String LONGEST = ALL + ("01" + "ffffffffffffffffff01").repeat(64);

    public static void main(String[] args) {
        Check.sentence("9: What is fed is THE CODE of CELLS: these are so", BoundaryDecodeTest::theseAreSo);
        Check.sentence("9: (nothing is fed then, WRONG or not)", BoundaryDecodeTest::nothingIsFedThen);
        Check.sentence("9: how many are not empty", BoundaryDecodeTest::howManyAreNotEmpty);
        Check.sentence("9: WRONG at its first octet that can not stand where it is",
            BoundaryDecodeTest::firstOctetThatCanNotStand);
        Check.sentence("9: WRONG at its first octet that can not stand where it is",
            BoundaryDecodeTest::whatStandsBeforeCanBeEnded);
        Check.sentence("9: (how many: 0", BoundaryDecodeTest::howManyZero);
        Check.sentence("9: or above what is left", BoundaryDecodeTest::howManyAboveWhatIsLeft);
        Check.sentence("9: one more than THE CODE has)", BoundaryDecodeTest::oneMoreThanTheCodeHas);
        Check.sentence("9: or at its end if it ends too soon", BoundaryDecodeTest::endsTooSoon);
        Check.sentence("9: CELLS stay", BoundaryDecodeTest::cellsStay);
        Check.sentence("9: (Of a number the last octet can not stand if it is not needed",
            BoundaryDecodeTest::lastOctetNotNeeded);
        Check.sentence("9: or beyond 64 bits", BoundaryDecodeTest::lastOctetBeyond64Bits);
        Check.sentence("9: the last octet of one that is 0 behind the first RUN.)",
            BoundaryDecodeTest::zeroBehindTheFirstRun);
        Check.sentence("10: Where the latest decode() was WRONG", BoundaryDecodeTest::wrongOfTheLatest);
        Check.sentence("10: -1 if it was not", BoundaryDecodeTest::notWrong);
        Check.sentence("10: or there was none", BoundaryDecodeTest::noDecodeYet);
        Check.end();
    }

    private static void theseAreSo() {
        Decoding.dueCells(NO_CELLS, 0, "");
        Decoding.dueCells(ONE + "0102", 1, "0=1 ");
        Decoding.dueCells("0000000000000080" + "0101", 1, "63=-1 ");
        Decoding.dueCells("8001000000000000" + "0204", 2, "7=2 8=2 ");
        Decoding.dueCells("8001000000000000" + "0104" + "0103", 2, "7=2 8=0 ");
        // Again and again on one object: nothing of cells that came in before, or were WRONG, is left.
        ChunkCode x = new ChunkCode();
        for (int times = 0; times < 3; times++) {
            dueCellsOn(x, ALL + "4002", 64);
            dueCellsOn(x, ONE + "0102", 1);
            Check.feedHex(x, ALL + "3f02" + "0100");
            Check.dueThrow("decode()", IllegalArgumentException.class, x::decode);
            dueCellsOn(x, "0000000000000080" + "0104", 1);
            Check.due("sum(0, 63)", x.sum(0, 63), 2);
            dueCellsOn(x, NO_CELLS, 0);
        }
        // Of the longest code, all cells come in, and go out again as they came.
        StringBuilder cells = new StringBuilder();
        for (int k = 0; k < 64; k++) {
            cells.append(k).append('=').append(k % 2 == 0 ? Long.MIN_VALUE : 0).append(' ');
        }
        Decoding.dueCells(LONGEST, 64, cells.toString());
    }

    private static void dueCellsOn(ChunkCode x, String hex, int many) {
        Check.feedHex(x, hex);
        Check.due("decode() of " + hex, x.decode(), many);
        Check.due("code of what came in", Check.hexOfCells(x), hex);
    }

    private static void nothingIsFedThen() {
        ChunkCode right = new ChunkCode();
        Check.feedHex(right, ONE + "0102");
        Check.due("count(2) before decode()", right.count(2), 10);
        Check.due("decode()", right.decode(), 1);
        Check.due("count(2) behind decode()", right.count(2), 0);
        ChunkCode wrong = new ChunkCode();
        Check.feedHex(wrong, ONE + "0002" + "ff");
        Check.due("count(2) before decode()", wrong.count(2), 11);
        Check.dueThrow("decode()", IllegalArgumentException.class, wrong::decode);
        Check.due("count(2) behind decode() that was WRONG", wrong.count(2), 0);
        for (ChunkCode x : new ChunkCode[] {right, wrong}) {
            Check.dueThrow("decode() at once again", IllegalArgumentException.class, x::decode);
            Check.due("wrong() of nothing", x.wrong(), 0);
            // Fewer octets than before: none of the old ones may stand in for those that lack.
            Check.feedHex(x, ONE + "01");
            Check.dueThrow("decode()", IllegalArgumentException.class, x::decode);
            Check.due("wrong()", x.wrong(), 9);
            Check.feedHex(x, TWO);
            Check.feedHex(x, "0204");
            Check.due("decode() of what is fed anew", x.decode(), 2);
        }
    }

    private static void howManyAreNotEmpty() {
        for (int many = 0; many <= 64; many++) {
            byte[] mask = new byte[8];
            for (int k = 0; k < many; k++) {
                mask[k / 8] |= (byte) (1 << k % 8);
            }
            String hex = Check.hexOf(mask) + (many == 0 ? "" : String.format("%02x00", many));
            ChunkCode x = Check.chunk(63, 5, 0, 5);
            Check.feedHex(x, hex);
            Check.due("decode() of " + hex, x.decode(), many);
            Check.due("count(0) behind " + hex, x.count(0), many);
        }
    }

    private static void firstOctetThatCanNotStand() {
        // Each mask stands, so that no octet before the ninth is ever WRONG.
        for (int octet = 0; octet < 256; octet++) {
            String mask = String.format("%02x", octet).repeat(8);
            Decoding.dueWrongAt(octet == 0 ? -1 : 8, mask);
            int full = 8 * Integer.bitCount(octet);
            Decoding.dueStands(mask + (octet == 0 ? "" : String.format("%02x00", full)));
        }
        // Two octets that can not stand: the first of them counts, and what comes behind is no matter.
        Decoding.dueWrong(TWO + "00" + "8000", 8);
        Decoding.dueWrong(TWO + "03" + "00" + "00" + "00", 8);
        Decoding.dueWrong(TWO + "01" + "8000" + "00", 10);
        Decoding.dueWrong(TWO + "01" + "00" + "00" + "00" + "00", 10);
        Decoding.dueWrong(TWO + "01" + "00" + "01" + "00" + "00", 11);
        Decoding.dueWrong(TWO + "01" + "00" + "01" + "02" + "00", 12);
        for (String behind : new String[] {"", "00", "01", "7f", "80", "ff", "0101010101010101010101"}) {
            Decoding.dueWrongAt(8, TWO + "03" + behind);
            Decoding.dueWrongAt(10, TWO + "01" + "02" + "02" + behind);
            Decoding.dueWrongAt(11, TWO + "01" + "02" + "01" + "00" + behind);
        }
    }

    /** What comes before the octet that is WRONG does stand there: some code begins with it. */
    private static void whatStandsBeforeCanBeEnded() {
        String code = "0500000000000080" + "01" + "ffffffffffffffffff01" + "01" + "8180808080808001" + "01" + "8102";
        for (int at = 0; at < code.length() / 2; at++) {
            for (int octet = 0; octet < 256; octet++) {
                String spoilt = code.substring(0, 2 * at) + String.format("%02x", octet) + code.substring(2 * at + 2);
                int wrong = Decoding.wrongOf(spoilt);
                if (wrong >= 0) {
                    dueCanBeEnded(spoilt.substring(0, 2 * wrong));
                }
            }
        }
    }

    /** An octet of 1 always stands: as a mask, as how many, and as the last of a number. */
    private static void dueCanBeEnded(String begin) {
        StringBuilder hex = new StringBuilder(begin);
        for (int more = 0; more <= 8 + 2 * 64; more++) {
            if (Decoding.wrongOf(hex.toString()) == -1) {
                return;
            }
            hex.append("01");
        }
        Check.failed("no code begins with " + begin + ", so decode() was WRONG before its end");
    }

    private static void howManyZero() {
        Decoding.dueWrong(ONE + "00" + "02", 8);
        Decoding.dueStands(ONE + "01" + "02");
        Decoding.dueWrong(ALL + "00" + "02", 8);
        Decoding.dueStands(ALL + "40" + "02");
        Decoding.dueWrong(TWO + "01" + "02" + "00" + "02", 10);
        Decoding.dueStands(TWO + "01" + "02" + "01" + "02");
        // No cell is left: a 0 is one octet more than the code has.
        Decoding.dueWrong(TWO + "02" + "02" + "00" + "02", 10);
    }

    private static void howManyAboveWhatIsLeft() {
        for (int left = 1; left <= 64; left++) {
            byte[] mask = new byte[8];
            for (int k = 64 - left; k < 64; k++) {
                mask[k / 8] |= (byte) (1 << k % 8);
            }
            String hex = Check.hexOf(mask);
            Decoding.dueStands(hex + String.format("%02x", left) + "02");
            Decoding.dueWrongAt(8, hex + String.format("%02x", left + 1) + "02");
            Decoding.dueWrongAt(8, hex + String.format("%02x", left + 128) + "02");
            Decoding.dueWrongAt(8, hex + "ff" + "02");
            if (left > 1) {
                // One cell is taken by the first run, so that one fewer is left for the second.
                Decoding.dueStands(hex + "01" + "02" + String.format("%02x", left - 1) + "02");
                Decoding.dueWrongAt(10, hex + "01" + "02" + String.format("%02x", left) + "02");
                Decoding.dueStands(hex + String.format("%02x", left - 1) + "02" + "01" + "02");
                Decoding.dueWrongAt(10, hex + String.format("%02x", left - 1) + "02" + "02" + "02");
            }
        }
        Decoding.dueWrong(ONE + "02" + "02", 8);
        Decoding.dueWrong(TWO + "01" + "02" + "02" + "02", 10);
    }

    private static void oneMoreThanTheCodeHas() {
        for (String code : new String[] {NO_CELLS, ONE + "0102", TWO + "0202", TWO + "0102" + "0102", ALL + "4000",
            ONE + "01" + "ffffffffffffffffff01", LONGEST}) {
            int length = code.length() / 2;
            Decoding.dueStands(code);
            for (String more : new String[] {"00", "01", "7f", "80", "ff", "0000", "0102", "00".repeat(100)}) {
                Decoding.dueWrongAt(length, code + more);
            }
            // As many as can be fed.
            Decoding.dueWrongAt(length, code + "00".repeat(1000 - length));
        }
        Decoding.dueWrong(NO_CELLS + "00", 8);
        Decoding.dueWrong(ONE + "0102" + "0102", 10);
        Decoding.dueWrong(LONGEST + "01", 712);
    }

    private static void endsTooSoon() {
        for (String code : new String[] {NO_CELLS, ONE + "0102", ONE + "01" + "8001", ALL + "4000", LONGEST,
            "0500000000000080" + "01" + "ffffffffffffffffff01" + "01" + "8180808080808001" + "01" + "8102"}) {
            int length = code.length() / 2;
            for (int end = 0; end < length; end++) {
                Decoding.dueWrongAt(end, code.substring(0, 2 * end));
            }
            Decoding.dueStands(code);
        }
        Decoding.dueWrong("", 0);
        Decoding.dueWrong("ffffffffffffff", 7);
        Decoding.dueWrong(ONE, 8);
        Decoding.dueWrong(ONE + "01", 9);
        Decoding.dueWrong(ONE + "01" + "80", 10);
        Decoding.dueWrong(TWO + "01" + "02", 10);
        Decoding.dueWrong(TWO + "01" + "02" + "01", 11);
    }

    private static void cellsStay() {
        // All but the very last octet could be read.
        Decoding.dueWrong(ALL + "3f02" + "0100", 11);
        Decoding.dueWrong(ALL + "4002" + "00", 10);
        Decoding.dueWrong(LONGEST.substring(0, 2 * 711), 711);
        ChunkCode x = Check.fullChunk();
        String before = Check.cells(x);
        Check.feedHex(x, NO_CELLS + "00");
        Check.dueThrow("decode()", IllegalArgumentException.class, x::decode);
        Check.due("cells behind decode() that was WRONG", Check.cells(x), before);
        Check.feedHex(x, NO_CELLS);
        x.decode();
        Check.due("cells behind decode()", Check.cells(x), "");
        // Cells that came in by decode() stay too, and so do empty ones.
        Check.feedHex(x, ALL + "41");
        Check.dueThrow("decode()", IllegalArgumentException.class, x::decode);
        Check.due("cells behind decode() that was WRONG", Check.cells(x), "");
        ChunkCode y = new ChunkCode();
        Check.feedHex(y, TWO + "0102" + "0102");
        y.decode();
        Check.feedHex(y, ALL + "3f08" + "0100");
        Check.dueThrow("decode()", IllegalArgumentException.class, y::decode);
        Check.due("cells behind decode() that was WRONG", Check.cells(y), "0=1 1=2 ");
    }

    private static void lastOctetNotNeeded() {
        for (int more = 1; more <= 9; more++) {
            for (String octet : new String[] {"80", "81", "ff"}) {
                String number = octet.repeat(more);
                Decoding.dueWrongAt(9 + more, ONE + "01" + number + "00");
                Decoding.dueStands(ONE + "01" + number + "01");
                Decoding.dueWrongAt(11 + more, TWO + "01" + "02" + "01" + number + "00");
                Decoding.dueStands(TWO + "01" + "02" + "01" + number + "01");
            }
        }
        // A single octet is always needed, a 0 too.
        Decoding.dueStands(ONE + "01" + "00");
        Decoding.dueStands(ONE + "01" + "7f");
        Decoding.dueWrong(ONE + "01" + "8000", 10);
        Decoding.dueWrong(ONE + "01" + "ff00", 10);
    }

    private static void lastOctetBeyond64Bits() {
        for (String nine : new String[] {"80".repeat(9), "ff".repeat(9), "81" + "80".repeat(8)}) {
            Decoding.dueStands(ONE + "01" + nine + "01");
            Decoding.dueStands(TWO + "01" + "02" + "01" + nine + "01");
            for (int octet = 2; octet < 256; octet++) {
                // From 128 on it would not be the last, but no other could be: it can not stand itself.
                String tenth = String.format("%02x", octet);
                Decoding.dueWrongAt(18, ONE + "01" + nine + tenth);
                Decoding.dueWrongAt(18, ONE + "01" + nine + tenth + "01");
                Decoding.dueWrongAt(20, TWO + "01" + "02" + "01" + nine + tenth);
            }
        }
        // Nine octets hold 63 bits: whatever the last one is, it is not beyond.
        for (int octet = 1; octet < 128; octet++) {
            Decoding.dueStands(ONE + "01" + "ff".repeat(8) + String.format("%02x", octet));
        }
        Decoding.dueWrong(ONE + "01" + "ff".repeat(9) + "02", 18);
        Decoding.dueWrong(ONE + "01" + "ff".repeat(9) + "8001", 18);
    }

    private static void zeroBehindTheFirstRun() {
        Decoding.dueStands(ONE + "0100");
        Decoding.dueStands(TWO + "0200");
        Decoding.dueStands(TWO + "0100" + "0101");
        Decoding.dueStands(TWO + "0100" + "0102");
        Decoding.dueStands(TWO + "0102" + "01" + "8001");
        // Many bits that are 0 are not all of them.
        Decoding.dueStands(TWO + "0102" + "01" + "8080808010");
        Decoding.dueStands(TWO + "0102" + "01" + "80".repeat(9) + "01");
        Decoding.dueWrong(TWO + "0100" + "0100", 11);
        Decoding.dueWrong(TWO + "0102" + "0100", 11);
        Decoding.dueWrong(TWO + "0102" + "018000", 12);
        Decoding.dueWrong(TWO + "0102" + "01808000", 13);
        Decoding.dueWrong(TWO + "01" + "8001" + "0100", 12);
        // In the last of 64 runs as in the second.
        Decoding.dueStands(ALL + "0102".repeat(64));
        Decoding.dueWrong(ALL + "0102".repeat(63) + "0100", 8 + 127);
        Decoding.dueStands(ALL + "0100" + "0102".repeat(63));
        Decoding.dueWrong(ALL + "0100" + "0100" + "0102".repeat(62), 11);
        // Back at the number 0, but not by a step of 0.
        Decoding.dueCells("0700000000000000" + "0100" + "0102" + "0101", 3, "0=0 1=1 2=0 ");
    }

    private static void wrongOfTheLatest() {
        ChunkCode x = new ChunkCode();
        Check.dueThrow("decode() of nothing", IllegalArgumentException.class, x::decode);
        Check.due("wrong() at the first octet of all", x.wrong(), 0);
        for (int octets = 1; octets <= 7; octets++) {
            x.feed(-1, octets);
            Check.dueThrow("decode()", IllegalArgumentException.class, x::decode);
            Check.due("wrong()", x.wrong(), octets);
        }
        Check.feedHex(x, LONGEST + "00");
        Check.due("wrong() is of the latest, not of what is fed now", x.wrong(), 7);
        Check.dueThrow("decode()", IllegalArgumentException.class, x::decode);
        Check.due("wrong() as far behind as can be", x.wrong(), 712);
        x.put(0, 1);
        x.erase(0, 63);
        x.encode();
        x.feed(0, 8);
        Check.dueThrow("get(64)", IndexOutOfBoundsException.class, () -> x.get(64));
        Check.dueThrow("count(5)", IllegalArgumentException.class, () -> x.count(5));
        Check.due("wrong() until the next decode()", x.wrong(), 712);
    }

    private static void notWrong() {
        ChunkCode x = new ChunkCode();
        x.feed(0, 8);
        x.decode();
        Check.due("wrong() behind the first decode()", x.wrong(), -1);
        Check.dueThrow("decode()", IllegalArgumentException.class, x::decode);
        Check.due("wrong()", x.wrong(), 0);
        Check.feedHex(x, ONE + "0102");
        Check.due("wrong() before the next decode()", x.wrong(), 0);
        x.decode();
        Check.due("wrong() behind one that was not", x.wrong(), -1);
    }

    private static void noDecodeYet() {
        ChunkCode x = new ChunkCode();
        Check.due("wrong() of a new object", x.wrong(), -1);
        Check.dueThrow("feed(0, 0)", IllegalArgumentException.class, () -> x.feed(0, 0));
        x.feed(-1, 8);
        x.put(0, 1);
        x.encode();
        Check.due("wrong() before decode()", x.wrong(), -1);
        ChunkCode other = new ChunkCode();
        Check.dueThrow("decode() of another", IllegalArgumentException.class, other::decode);
        Check.due("wrong() behind another's decode()", x.wrong(), -1);
        Check.dueThrow("decode()", IllegalArgumentException.class, x::decode);
        Check.due("wrong()", x.wrong(), 8);
    }
}
