/** The boundaries that "Terms" names: the cells, the runs and the octets of the code. */
public final class BoundaryTermsTest {
    private static final String ONE = "0100000000000000" + "01";
    private static final String TWO = "0300000000000000";

    public static void main(String[] args) {
        Check.sentence("CELLS 0..63", BoundaryTermsTest::cells);
        Check.sentence("each empty (at first)", BoundaryTermsTest::emptyAtFirst);
        Check.sentence("or a number of 64 bits", BoundaryTermsTest::numbersOf64Bits);
        Check.sentence("bit k % 8 of octet k / 8 is 1 if CELL k is not empty", BoundaryTermsTest::maskBits);
        Check.sentence("CELLS that are not empty, one behind the other but for empty ones between",
            BoundaryTermsTest::runsPassOverEmptyCells);
        Check.sentence("as many as have the same number", BoundaryTermsTest::runsTakeAllOfTheSameNumber);
        Check.sentence("how many (an octet)", BoundaryTermsTest::howManyIsAnOctet);
        Check.sentence("of d, its number less that of the RUN before", BoundaryTermsTest::stepFromTheRunBefore);
        Check.sentence("(0 before the first; wrapping)", BoundaryTermsTest::stepOfTheFirstRun);
        Check.sentence("(0 before the first; wrapping)", BoundaryTermsTest::stepWraps);
        Check.sentence("(d << 1) ^ (d >> 63), without sign", BoundaryTermsTest::foldedWithoutSign);
        Check.sentence("7 bits an octet, the lowest first, 128 more in each but the last one",
            BoundaryTermsTest::sevenBitsLowestFirst);
        Check.sentence("as few octets as can be", BoundaryTermsTest::asFewOctetsAsCanBe);
        Check.sentence("(one at least)", BoundaryTermsTest::oneOctetAtLeast);
        Check.end();
    }

    private static void dueCode(ChunkCode x, String want) {
        Check.due("code", Check.hexOfCells(x), want);
    }

    private static void cells() {
        for (int k : new int[] {0, 1, 31, 32, 62, 63}) {
            ChunkCode x = Check.chunk(k, 7);
            Check.due("get(" + k + ")", x.get(k), 7);
            Check.due("sum(" + k + ", " + k + ")", x.sum(k, k), 7);
            x.erase(k, k);
            Check.due("count(0) behind erase(" + k + ", " + k + ")", x.count(0), 0);
        }
        for (int k : new int[] {-1, 64, -64, 128, Integer.MIN_VALUE, Integer.MAX_VALUE}) {
            ChunkCode x = new ChunkCode();
            Check.dueThrow("put(" + k + ", 7)", IndexOutOfBoundsException.class, () -> { x.put(k, 7); return 0; });
            Check.dueThrow("get(" + k + ")", IndexOutOfBoundsException.class, () -> x.get(k));
            Check.dueThrow("sum(" + k + ", " + k + ")", IndexOutOfBoundsException.class, () -> x.sum(k, k));
            Check.dueThrow("erase(" + k + ", " + k + ")", IndexOutOfBoundsException.class,
                () -> { x.erase(k, k); return 0; });
        }
    }

    private static void emptyAtFirst() {
        for (int k = 0; k < 64; k++) {
            int cell = k;
            ChunkCode x = new ChunkCode();
            Check.dueThrow("get(" + k + ") at first", UnsupportedOperationException.class, () -> x.get(cell));
            x.put(k, 0);
            Check.due("get(" + k + ") behind put(" + k + ", 0)", x.get(k), 0);
        }
    }

    private static void numbersOf64Bits() {
        for (int bit = 0; bit < 64; bit++) {
            for (long v : new long[] {1L << bit, (1L << bit) - 1, -(1L << bit), ~(1L << bit)}) {
                ChunkCode x = Check.chunk(bit, v);
                Check.due("get(" + bit + ")", x.get(bit), v);
                ChunkCode y = new ChunkCode();
                Check.feedHex(y, Check.hexOfCells(x));
                y.decode();
                Check.due("get(" + bit + ") of what came in", y.get(bit), v);
            }
        }
    }

    private static void maskBits() {
        String mask0 = "0000000000000000";
        dueCode(new ChunkCode(), mask0);
        dueCode(Check.chunk(0, 0), "0100000000000000" + "0100");
        dueCode(Check.chunk(7, 0), "8000000000000000" + "0100");
        dueCode(Check.chunk(8, 0), "0001000000000000" + "0100");
        dueCode(Check.chunk(31, 0), "0000008000000000" + "0100");
        dueCode(Check.chunk(32, 0), "0000000001000000" + "0100");
        dueCode(Check.chunk(55, 0), "0000000000008000" + "0100");
        dueCode(Check.chunk(56, 0), "0000000000000001" + "0100");
        dueCode(Check.chunk(63, 0), "0000000000000080" + "0100");
        ChunkCode x = Check.fullChunk();
        Check.due("mask of a full chunk", Check.hexOfCells(x).substring(0, 16), "ffffffffffffffff");
        x.erase(0, 0);
        x.erase(63, 63);
        Check.due("mask but for the two ends", Check.hexOfCells(x).substring(0, 16), "feffffffffffff7f");
    }

    private static void runsPassOverEmptyCells() {
        dueCode(Check.chunk(0, 3, 1, 3), TWO + "0206");
        dueCode(Check.chunk(0, 3, 2, 3), "0500000000000000" + "0206");
        dueCode(Check.chunk(0, 3, 63, 3), "0100000000000080" + "0206");
        // A number between ends the run; once it is erased, the two sides are one.
        ChunkCode x = Check.chunk(0, 3, 1, 4, 2, 3);
        dueCode(x, "0700000000000000" + "0106" + "0102" + "0101");
        Check.due("count(1)", x.count(1), 3);
        x.erase(1, 1);
        dueCode(x, "0500000000000000" + "0206");
        Check.due("count(1)", x.count(1), 1);
        // Empty cells before the first and behind the last belong to no run.
        dueCode(Check.chunk(30, 3, 33, 3), "0000004002000000" + "0206");
        Check.due("count(1) of no cells", new ChunkCode().count(1), 0);
    }

    private static void runsTakeAllOfTheSameNumber() {
        ChunkCode same = new ChunkCode();
        for (int k = 0; k < 64; k++) {
            same.put(k, 1L << 32);
        }
        Check.due("count(1), all the same", same.count(1), 1);
        dueCode(same, "ffffffffffffffff" + "40" + "8080808020");
        // Two numbers are not the same if only their lowest or their highest bit differs.
        Check.due("count(1)", Check.chunk(0, 0, 1, 1).count(1), 2);
        Check.due("count(1)", Check.chunk(0, 0, 1, Long.MIN_VALUE).count(1), 2);
        Check.due("count(1)", Check.chunk(0, 1, 1, 1 + (1L << 32)).count(1), 2);
        Check.due("count(1)", Check.chunk(0, -1, 1, 0xffffffffL).count(1), 2);
        Check.due("count(1)", Check.chunk(0, 5, 1, -5).count(1), 2);
        Check.due("count(1), each another", Check.fullChunk().count(1), 64);
    }

    private static void howManyIsAnOctet() {
        for (int many = 1; many <= 64; many++) {
            ChunkCode x = new ChunkCode();
            for (int k = 0; k < 64; k++) {
                x.put(k, k < many ? 1 : 2);
            }
            String behind = many == 64 ? "" : String.format("%02x02", 64 - many);
            dueCode(x, "ffffffffffffffff" + String.format("%02x02", many) + behind);
        }
    }

    private static void stepFromTheRunBefore() {
        dueCode(Check.chunk(0, 10, 1, 11), TWO + "0114" + "0102");
        dueCode(Check.chunk(0, 10, 1, 9), TWO + "0114" + "0101");
        dueCode(Check.chunk(0, 10, 1, 0), TWO + "0114" + "0113");
        dueCode(Check.chunk(0, -10, 1, 10), TWO + "0113" + "0128");
        // The third less the second, not less the first.
        dueCode(Check.chunk(0, 10, 1, 12, 2, 13), "0700000000000000" + "0114" + "0104" + "0102");
    }

    private static void stepOfTheFirstRun() {
        dueCode(Check.chunk(0, 0), ONE + "00");
        dueCode(Check.chunk(0, 1), ONE + "02");
        dueCode(Check.chunk(63, 1), "0000000000000080" + "0102");
        // Nothing of the code that was made before may stand in for that 0.
        ChunkCode x = Check.chunk(0, 9, 1, 8);
        dueCode(x, TWO + "0112" + "0101");
        dueCode(x, TWO + "0112" + "0101");
        x.erase(0, 1);
        x.put(0, 8);
        dueCode(x, ONE + "10");
    }

    private static void stepWraps() {
        String max = "feffffffffffffffff01";
        String min = "ffffffffffffffffff01";
        // The highest step that does not wrap, and the first that does.
        dueCode(Check.chunk(0, 0, 1, Long.MAX_VALUE), TWO + "0100" + "01" + max);
        dueCode(Check.chunk(0, -1, 1, Long.MAX_VALUE), TWO + "0101" + "01" + min);
        dueCode(Check.chunk(0, 0, 1, Long.MIN_VALUE), TWO + "0100" + "01" + min);
        dueCode(Check.chunk(0, 1, 1, Long.MIN_VALUE), TWO + "0102" + "01" + max);
        dueCode(Check.chunk(0, Long.MAX_VALUE, 1, Long.MIN_VALUE), TWO + "01" + max + "0102");
        dueCode(Check.chunk(0, Long.MIN_VALUE, 1, Long.MAX_VALUE), TWO + "01" + min + "0101");
        Decoding.dueCells(TWO + "01" + max + "0102", 2, "0=" + Long.MAX_VALUE + " 1=" + Long.MIN_VALUE + " ");
        Decoding.dueCells(TWO + "01" + min + "0101", 2, "0=" + Long.MIN_VALUE + " 1=" + Long.MAX_VALUE + " ");
    }

    private static void foldedWithoutSign() {
        dueCode(Check.chunk(0, 0), ONE + "00");
        dueCode(Check.chunk(0, -1), ONE + "01");
        dueCode(Check.chunk(0, 1), ONE + "02");
        dueCode(Check.chunk(0, -2), ONE + "03");
        // From 2 to the 62nd on the highest bit is 1, and is no sign.
        dueCode(Check.chunk(0, (1L << 62) - 1), ONE + "feffffffffffffff7f");
        dueCode(Check.chunk(0, -(1L << 62)), ONE + "ffffffffffffffff7f");
        dueCode(Check.chunk(0, 1L << 62), ONE + "80808080808080808001");
        dueCode(Check.chunk(0, -(1L << 62) - 1), ONE + "81808080808080808001");
        dueCode(Check.chunk(0, Long.MAX_VALUE), ONE + "feffffffffffffffff01");
        dueCode(Check.chunk(0, Long.MIN_VALUE), ONE + "ffffffffffffffffff01");
    }

    private static void sevenBitsLowestFirst() {
        // Each octet of the number has other bits: 1, then 1 and 2, and so on to ten octets.
        StringBuilder more = new StringBuilder();
        long folded = 0;
        for (int i = 0; i < 10; i++) {
            int bits = i == 9 ? 1 : i + 1;
            folded |= (long) bits << (7 * i);
            long number = (folded >>> 1) ^ -(folded & 1);
            dueCode(Check.chunk(0, number), ONE + more + String.format("%02x", bits));
            more.append(String.format("%02x", bits + 128));
        }
    }

    private static void asFewOctetsAsCanBe() {
        for (int octets = 1; octets <= 9; octets++) {
            long firstOfMore = 1L << (7 * octets - 1);
            dueCode(Check.chunk(0, -firstOfMore), ONE + "ff".repeat(octets - 1) + "7f");
            String highestEven = octets == 1 ? "7e" : "fe" + "ff".repeat(octets - 2) + "7f";
            dueCode(Check.chunk(0, firstOfMore - 1), ONE + highestEven);
            dueCode(Check.chunk(0, firstOfMore), ONE + "80".repeat(octets) + "01");
            Check.due("count(4)", Check.chunk(0, -firstOfMore).count(4), 9 + octets);
            Check.due("count(4)", Check.chunk(0, firstOfMore).count(4), 10 + octets);
        }
    }

    private static void oneOctetAtLeast() {
        dueCode(Check.chunk(0, 0), ONE + "00");
        dueCode(Check.chunk(5, 0, 6, 0), "6000000000000000" + "0200");
        dueCode(Check.chunk(0, 0, 1, 1), TWO + "0100" + "0102");
        Check.due("count(4) of a 0", Check.chunk(0, 0).count(4), 10);
        Check.due("count(4) of a 1", Check.chunk(0, 1).count(4), 10);
    }
}
