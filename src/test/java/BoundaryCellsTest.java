/** The boundaries that promises 1 to 5 name: a new object, put, erase, get and sum. */
public final class BoundaryCellsTest {
    private static final int[] NO_CELLS = {-1, 64, -64, 65, 127, 128, 1 << 16, Integer.MIN_VALUE, Integer.MAX_VALUE};

    /** A call that may throw, on an object that is given. */
    private interface Use {
        void on(ChunkCode x);
    }

    public static void main(String[] args) {
        Check.sentence("1: All CELLS are empty", BoundaryCellsTest::allCellsAreEmpty);
        Check.sentence("1: nothing is fed", BoundaryCellsTest::nothingIsFed);
        Check.sentence("1: Of two exceptions the one named first is thrown",
            BoundaryCellsTest::firstNamedIsThrown);
        Check.sentence("1: a call that throws changes nothing", BoundaryCellsTest::throwingChangesNothing);
        Check.sentence("1: a call that throws changes nothing", BoundaryCellsTest::feedThatThrowsChangesNothing);
        Check.sentence("1: but decode(), see there", BoundaryCellsTest::decodeThatThrowsChangesWhatItSays);
        Check.sentence("2: CELL k is v", BoundaryCellsTest::putFills);
        Check.sentence("2: IndexOutOfBoundsException: there is none", BoundaryCellsTest::putRefuses);
        Check.sentence("3: CELLS from a to b are empty", BoundaryCellsTest::eraseEmpties);
        Check.sentence("3: (none if a is above b)", BoundaryCellsTest::eraseNone);
        Check.sentence("3: IndexOutOfBoundsException: a or b is none", BoundaryCellsTest::eraseRefuses);
        Check.sentence("4: The number of a CELL", BoundaryCellsTest::getAnswers);
        Check.sentence("4: IndexOutOfBoundsException: there is none", BoundaryCellsTest::getRefusesNoCell);
        Check.sentence("4: UnsupportedOperationException: it is empty", BoundaryCellsTest::getRefusesEmptyCell);
        Check.sentence("5: CELLS that are not empty, from a to b, added up", BoundaryCellsTest::sumAdds);
        Check.sentence("5: (none if a is above b)", BoundaryCellsTest::sumOfNone);
        Check.sentence("5: (wrapping)", BoundaryCellsTest::sumWraps);
        Check.sentence("5: IndexOutOfBoundsException likewise", BoundaryCellsTest::sumRefuses);
        Check.end();
    }

    private static void allCellsAreEmpty() {
        ChunkCode x = new ChunkCode();
        for (int k = 0; k < 64; k++) {
            int cell = k;
            Check.dueThrow("get(" + k + ")", UnsupportedOperationException.class, () -> x.get(cell));
        }
        Check.due("count(0)", x.count(0), 0);
        x.put(0, 0);
        Check.due("count(0) behind put(0, 0)", x.count(0), 1);
        // Another object that is full is no matter.
        Check.fullChunk();
        Check.due("count(0) of one more", new ChunkCode().count(0), 0);
    }

    private static void nothingIsFed() {
        ChunkCode x = new ChunkCode();
        Check.due("count(2)", x.count(2), 0);
        Check.dueThrow("decode()", IllegalArgumentException.class, x::decode);
        Check.due("wrong(), at the end of nothing", x.wrong(), 0);
        ChunkCode y = new ChunkCode();
        Check.due("feed(0, 8)", y.feed(0, 8), 8);
        Check.due("decode()", y.decode(), 0);
    }

    private static void firstNamedIsThrown() {
        ChunkCode x = new ChunkCode();
        feedZeros(x, 992);
        Check.dueThrow("feed(0, 9) with 992 fed", IllegalArgumentException.class, () -> x.feed(0, 9));
        x.feed(0, 8);
        for (int n : new int[] {9, 0, -1, Integer.MAX_VALUE, Integer.MIN_VALUE}) {
            Check.dueThrow("feed(0, " + n + ") with 1000 fed", IllegalArgumentException.class, () -> x.feed(0, n));
        }
        for (int n = 1; n <= 8; n++) {
            int octets = n;
            Check.dueThrow("feed(0, " + n + ") with 1000 fed", IndexOutOfBoundsException.class,
                () -> x.feed(0, octets));
        }
        Check.dueThrow("get(64), none and not filled", IndexOutOfBoundsException.class, () -> x.get(64));
        Check.dueThrow("get(-1), none and not filled", IndexOutOfBoundsException.class, () -> x.get(-1));
        Check.dueThrow("get(63), there but not filled", UnsupportedOperationException.class, () -> x.get(63));
    }

    private static void feedZeros(ChunkCode x, int octets) {
        for (int left = octets; left > 0; left -= 8) {
            x.feed(0, Math.min(8, left));
        }
    }

    private static void throwingChangesNothing() {
        unchangedBy("put(64, 1)", IndexOutOfBoundsException.class, x -> x.put(64, 1));
        unchangedBy("put(-1, 1)", IndexOutOfBoundsException.class, x -> x.put(-1, 1));
        unchangedBy("erase(0, 64)", IndexOutOfBoundsException.class, x -> x.erase(0, 64));
        unchangedBy("erase(-1, 63)", IndexOutOfBoundsException.class, x -> x.erase(-1, 63));
        unchangedBy("get(64)", IndexOutOfBoundsException.class, x -> x.get(64));
        unchangedBy("get(1)", UnsupportedOperationException.class, x -> x.get(1));
        unchangedBy("sum(0, 64)", IndexOutOfBoundsException.class, x -> x.sum(0, 64));
        unchangedBy("sum(-1, 63)", IndexOutOfBoundsException.class, x -> x.sum(-1, 63));
        unchangedBy("code(2)", IndexOutOfBoundsException.class, x -> x.code(2));
        unchangedBy("code(-1)", IndexOutOfBoundsException.class, x -> x.code(-1));
        unchangedBy("feed(-1, 0)", IllegalArgumentException.class, x -> x.feed(-1, 0));
        unchangedBy("feed(-1, 9)", IllegalArgumentException.class, x -> x.feed(-1, 9));
        unchangedBy("count(5)", IllegalArgumentException.class, x -> x.count(5));
        unchangedBy("count(-1)", IllegalArgumentException.class, x -> x.count(-1));
    }

    private static void unchangedBy(String call, Class<? extends RuntimeException> want, Use use) {
        ChunkCode x = Check.chunk(0, 7, 5, 7, 63, -2);
        Check.due("encode()", x.encode(), 12);
        Check.dueThrow("decode()", IllegalArgumentException.class, x::decode);
        x.put(6, 1);
        Check.feedHex(x, "0400000000000000 01");
        String before = Check.state(x);
        Check.dueThrow(call, want, () -> { use.on(x); return 0; });
        Check.due("state behind " + call, Check.state(x), before);
        // The octets that are fed are the same too, not only as many.
        x.feed(6L << 56, 1);
        Check.due("decode() behind " + call, x.decode(), 1);
        Check.due("get(2) behind " + call, x.get(2), 3);
    }

    private static void feedThatThrowsChangesNothing() {
        ChunkCode x = new ChunkCode();
        feedZeros(x, 998);
        Check.dueThrow("feed(-1, 3) with 998 fed", IndexOutOfBoundsException.class, () -> x.feed(-1, 3));
        Check.due("count(2)", x.count(2), 998);
        Check.due("wrong()", x.wrong(), -1);
        Check.due("feed(0, 2)", x.feed(0, 2), 1000);
    }

    private static void decodeThatThrowsChangesWhatItSays() {
        ChunkCode x = Check.chunk(0, 7, 63, -2);
        x.encode();
        Check.feedHex(x, "0100000000000000 01 02 03");
        Check.dueThrow("decode()", IllegalArgumentException.class, x::decode);
        Check.due("state behind decode()", Check.state(x),
            "0=7 63=-2  count0=2 count1=2 count2=0 count3=12 count4=12 wrong=10 code=0100000000000080010e0111");
    }

    private static void putFills() {
        for (int k : new int[] {0, 1, 62, 63}) {
            ChunkCode x = Check.chunk(k, Long.MIN_VALUE);
            Check.due("cells", Check.cells(x), k + "=" + Long.MIN_VALUE + " ");
            x.put(k, Long.MAX_VALUE);
            Check.due("cells", Check.cells(x), k + "=" + Long.MAX_VALUE + " ");
            x.put(k, 0);
            Check.due("cells", Check.cells(x), k + "=0 ");
        }
    }

    private static void putRefuses() {
        ChunkCode x = new ChunkCode();
        for (int k : NO_CELLS) {
            Check.dueThrow("put(" + k + ", 1)", IndexOutOfBoundsException.class, () -> { x.put(k, 1); return 0; });
        }
        Check.due("count(0)", x.count(0), 0);
        x.put(0, 1);
        x.put(63, 1);
        Check.due("count(0) behind put(0, 1) and put(63, 1)", x.count(0), 2);
    }

    private static void dueErased(int a, int b, int first, int last) {
        ChunkCode x = Check.fullChunk();
        x.erase(a, b);
        StringBuilder want = new StringBuilder();
        for (int k = 0; k < 64; k++) {
            if (k < first || k > last) {
                want.append(k).append('=').append(Check.numberOf(k)).append(' ');
            }
        }
        Check.due("cells behind erase(" + a + ", " + b + ")", Check.cells(x), want.toString());
    }

    private static void eraseEmpties() {
        dueErased(0, 63, 0, 63);
        dueErased(0, 0, 0, 0);
        dueErased(63, 63, 63, 63);
        dueErased(0, 1, 0, 1);
        dueErased(62, 63, 62, 63);
        dueErased(1, 62, 1, 62);
        dueErased(31, 32, 31, 32);
        ChunkCode x = Check.chunk(2, 8);
        x.erase(0, 1);
        x.erase(3, 63);
        Check.due("get(2), beside what was erased", x.get(2), 8);
        x.erase(2, 2);
        x.erase(2, 2);
        Check.due("count(0), erased twice", x.count(0), 0);
    }

    private static void eraseNone() {
        dueErased(1, 0, 64, 64);
        dueErased(63, 62, 64, 64);
        dueErased(63, 0, 64, 64);
        dueErased(32, 31, 64, 64);
        dueErased(32, 32, 32, 32);
    }

    private static void eraseRefuses() {
        ChunkCode x = Check.fullChunk();
        for (int none : NO_CELLS) {
            for (int cell : new int[] {0, 63}) {
                dueEraseThrows(x, none, cell);
                dueEraseThrows(x, cell, none);
            }
            dueEraseThrows(x, none, none);
        }
        dueEraseThrows(x, -1, 64);
        dueEraseThrows(x, 64, -1);
        Check.due("count(0)", x.count(0), 64);
        x.erase(0, 63);
        Check.due("count(0) behind erase(0, 63)", x.count(0), 0);
    }

    private static void dueEraseThrows(ChunkCode x, int a, int b) {
        Check.dueThrow("erase(" + a + ", " + b + ")", IndexOutOfBoundsException.class,
            () -> { x.erase(a, b); return 0; });
    }

    private static void getAnswers() {
        ChunkCode x = Check.chunk(0, Long.MIN_VALUE, 1, -1, 62, 0, 63, Long.MAX_VALUE);
        Check.due("get(0)", x.get(0), Long.MIN_VALUE);
        Check.due("get(1)", x.get(1), -1);
        Check.due("get(62)", x.get(62), 0);
        Check.due("get(63)", x.get(63), Long.MAX_VALUE);
    }

    private static void getRefusesNoCell() {
        ChunkCode full = Check.fullChunk();
        ChunkCode empty = new ChunkCode();
        for (int k : NO_CELLS) {
            Check.dueThrow("get(" + k + ") of a full chunk", IndexOutOfBoundsException.class, () -> full.get(k));
            Check.dueThrow("get(" + k + ") of an empty one", IndexOutOfBoundsException.class, () -> empty.get(k));
        }
        Check.due("get(0)", full.get(0), Check.numberOf(0));
        Check.due("get(63)", full.get(63), Check.numberOf(63));
    }

    private static void getRefusesEmptyCell() {
        ChunkCode x = Check.chunk(0, 0, 32, 0, 63, 0);
        for (int k : new int[] {1, 31, 33, 62}) {
            Check.dueThrow("get(" + k + ")", UnsupportedOperationException.class, () -> x.get(k));
        }
        for (int k : new int[] {0, 32, 63}) {
            Check.due("get(" + k + "), a 0 is not empty", x.get(k), 0);
        }
        x.erase(32, 32);
        Check.dueThrow("get(32), erased", UnsupportedOperationException.class, () -> x.get(32));
        Check.feedHex(x, "0000000000000000");
        x.decode();
        Check.dueThrow("get(0), empty by decode()", UnsupportedOperationException.class, () -> x.get(0));
        x.put(0, 0);
        Check.due("get(0), put again", x.get(0), 0);
    }

    private static void sumAdds() {
        // Numbers of which no two sums are the same.
        ChunkCode x = Check.chunk(0, 1, 1, 2, 31, 4, 32, 8, 62, 16, 63, 32);
        Check.due("sum(0, 63)", x.sum(0, 63), 63);
        Check.due("sum(0, 0)", x.sum(0, 0), 1);
        Check.due("sum(63, 63)", x.sum(63, 63), 32);
        Check.due("sum(1, 62)", x.sum(1, 62), 30);
        Check.due("sum(1, 31)", x.sum(1, 31), 6);
        Check.due("sum(2, 30), all empty", x.sum(2, 30), 0);
        Check.due("sum(2, 31)", x.sum(2, 31), 4);
        Check.due("sum(32, 62)", x.sum(32, 62), 24);
        x.erase(31, 62);
        Check.due("sum(0, 63) behind erase(31, 62)", x.sum(0, 63), 35);
    }

    private static void sumOfNone() {
        ChunkCode x = Check.fullChunk();
        Check.due("sum(1, 0)", x.sum(1, 0), 0);
        Check.due("sum(63, 62)", x.sum(63, 62), 0);
        Check.due("sum(63, 0)", x.sum(63, 0), 0);
        Check.due("sum(32, 31)", x.sum(32, 31), 0);
        Check.due("sum(32, 32)", x.sum(32, 32), Check.numberOf(32));
    }

    private static void sumWraps() {
        ChunkCode x = Check.chunk(0, Long.MAX_VALUE - 1, 1, 1, 2, 1, 3, -1, 4, Long.MIN_VALUE, 5, Long.MIN_VALUE);
        Check.due("sum(0, 1), not yet", x.sum(0, 1), Long.MAX_VALUE);
        Check.due("sum(0, 2)", x.sum(0, 2), Long.MIN_VALUE);
        Check.due("sum(0, 3), and back", x.sum(0, 3), Long.MAX_VALUE);
        Check.due("sum(4, 4)", x.sum(4, 4), Long.MIN_VALUE);
        Check.due("sum(3, 4)", x.sum(3, 4), Long.MAX_VALUE);
        Check.due("sum(4, 5)", x.sum(4, 5), 0);
    }

    private static void sumRefuses() {
        ChunkCode x = Check.fullChunk();
        for (int none : NO_CELLS) {
            for (int cell : new int[] {0, 63}) {
                Check.dueThrow("sum(" + none + ", " + cell + ")", IndexOutOfBoundsException.class,
                    () -> x.sum(none, cell));
                Check.dueThrow("sum(" + cell + ", " + none + ")", IndexOutOfBoundsException.class,
                    () -> x.sum(cell, none));
            }
            Check.dueThrow("sum(" + none + ", " + none + ")", IndexOutOfBoundsException.class,
                () -> x.sum(none, none));
        }
        Check.due("sum(0, 63)", x.sum(0, 63), 64 * 100 + 3 * 63 * 32);
    }
}
