/** The boundaries that promise 11 names: count. */
public final class BoundaryCountTest {
    public static void main(String[] args) {
        Check.sentence("11: What 0: CELLS that are not empty", BoundaryCountTest::cells);
        Check.sentence("11: 1: RUNS", BoundaryCountTest::runs);
        Check.sentence("11: 2: octets that are fed", BoundaryCountTest::fed);
        Check.sentence("11: 3: octets of THE CODE that was made last", BoundaryCountTest::madeLast);
        Check.sentence("11: 4: octets that it would have now", BoundaryCountTest::now);
        Check.sentence("11: IllegalArgumentException for others", BoundaryCountTest::others);
        Check.end();
    }

    private static void cells() {
        ChunkCode x = new ChunkCode();
        Check.due("count(0) of none", x.count(0), 0);
        for (int k = 0; k < 64; k++) {
            x.put(k, 0);
            Check.due("count(0)", x.count(0), k + 1);
        }
        x.put(63, 1);
        Check.due("count(0) behind put of a full cell", x.count(0), 64);
        x.erase(63, 63);
        Check.due("count(0) behind erase", x.count(0), 63);
        x.erase(63, 63);
        Check.due("count(0) behind erase of an empty cell", x.count(0), 63);
        x.erase(0, 63);
        Check.due("count(0) of none again", x.count(0), 0);
    }

    private static void runs() {
        ChunkCode x = new ChunkCode();
        Check.due("count(1) of no cells", x.count(1), 0);
        x.put(20, 0);
        Check.due("count(1) of one", x.count(1), 1);
        x.put(40, 0);
        Check.due("count(1), the same number", x.count(1), 1);
        x.put(40, 1);
        Check.due("count(1), another number", x.count(1), 2);
        x.put(60, 0);
        Check.due("count(1), the first number again", x.count(1), 3);
        x.erase(40, 40);
        Check.due("count(1), nothing between", x.count(1), 1);
        ChunkCode y = new ChunkCode();
        for (int k = 0; k < 64; k++) {
            y.put(k, k % 2);
            Check.due("count(1)", y.count(1), k + 1);
        }
        for (int k = 0; k < 64; k++) {
            y.put(k, 5);
        }
        Check.due("count(1), all the same", y.count(1), 1);
    }

    private static void fed() {
        ChunkCode x = new ChunkCode();
        Check.due("count(2) of none", x.count(2), 0);
        Check.due("feed", x.feed(0, 1), 1);
        Check.due("count(2)", x.count(2), 1);
        for (int i = 0; i < 124; i++) {
            x.feed(0, 8);
        }
        x.feed(0, 7);
        Check.due("count(2), as many as can be", x.count(2), 1000);
        Check.dueThrow("feed(0, 1)", IndexOutOfBoundsException.class, () -> x.feed(0, 1));
        Check.due("count(2) behind feed that threw", x.count(2), 1000);
        Check.dueThrow("decode()", IllegalArgumentException.class, x::decode);
        Check.due("count(2) behind decode()", x.count(2), 0);
    }

    private static void madeLast() {
        ChunkCode x = new ChunkCode();
        Check.due("count(3) before the first", x.count(3), 0);
        x.put(0, 64);
        x.count(4);
        Check.due("count(3), none made yet", x.count(3), 0);
        x.encode();
        Check.due("count(3)", x.count(3), 11);
        x.erase(0, 0);
        Check.due("count(4)", x.count(4), 8);
        Check.due("count(3) stays", x.count(3), 11);
        Check.feedHex(x, "0300000000000000 01 02 01 02");
        x.decode();
        Check.due("count(3) behind decode()", x.count(3), 11);
        x.encode();
        Check.due("count(3) of the new one", x.count(3), 12);
        x.erase(0, 63);
        x.encode();
        Check.due("count(3), as few as can be", x.count(3), 8);
        ChunkCode longest = withLongestCode();
        longest.encode();
        Check.due("count(3), as many as can be", longest.count(3), 712);
    }

    private static ChunkCode withLongestCode() {
        ChunkCode x = new ChunkCode();
        for (int k = 0; k < 64; k++) {
            x.put(k, k % 2 == 0 ? Long.MIN_VALUE : 0);
        }
        return x;
    }

    private static void now() {
        ChunkCode x = new ChunkCode();
        Check.due("count(4) of no cells", x.count(4), 8);
        x.put(0, 0);
        Check.due("count(4)", x.count(4), 10);
        x.put(0, 64);
        Check.due("count(4)", x.count(4), 11);
        x.put(1, 64);
        Check.due("count(4), a longer run", x.count(4), 11);
        x.encode();
        x.put(1, 63);
        Check.due("count(4), not as it was made", x.count(4), 13);
        Check.due("count(3), as it was made", x.count(3), 11);
        Check.feedHex(x, "0000000000000000");
        Check.due("count(4) with octets fed", x.count(4), 13);
        x.decode();
        Check.due("count(4) behind decode()", x.count(4), 8);
        ChunkCode longest = withLongestCode();
        Check.due("count(4), as many as can be", longest.count(4), 712);
        Check.due("encode()", longest.encode(), 712);
        longest.erase(63, 63);
        Check.due("count(4), one run fewer", longest.count(4), 701);
    }

    private static void others() {
        ChunkCode x = new ChunkCode();
        for (int what = 0; what <= 4; what++) {
            Check.due("count(" + what + ")", x.count(what), what == 4 ? 8 : 0);
        }
        for (int what : new int[] {-1, 5, -4, 6, 8, 256, 260, 1 << 16, Integer.MIN_VALUE, Integer.MAX_VALUE}) {
            Check.dueThrow("count(" + what + ")", IllegalArgumentException.class, () -> x.count(what));
        }
    }
}
