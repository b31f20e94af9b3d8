/** Promise 11: count. */
public final class Promise11CountTest {
    public static void main(String[] args) {
        cellsAndRuns();
        fed();
        madeAndNow();
        noSuchCount();
        Check.end();
    }

    private static void cellsAndRuns() {
        ChunkCode x = new ChunkCode();
        Check.due("count(0)", x.count(0), 0);
        Check.due("count(1)", x.count(1), 0);
        x.put(0, 0);
        Check.due("count(1), a run of 0", x.count(1), 1);
        x.put(63, 0);
        Check.due("count(1), empty cells between", x.count(1), 1);
        x.put(30, 1);
        Check.due("count(0)", x.count(0), 3);
        Check.due("count(1), the same number again later", x.count(1), 3);
        x.erase(30, 30);
        Check.due("count(1) behind erase", x.count(1), 1);
        for (int k = 0; k < 64; k++) {
            x.put(k, k);
        }
        Check.due("count(0) of a full chunk", x.count(0), 64);
        Check.due("count(1) of a full chunk", x.count(1), 64);
    }

    private static void fed() {
        ChunkCode x = new ChunkCode();
        Check.due("count(2)", x.count(2), 0);
        x.feed(0, 3);
        x.feed(0, 8);
        Check.due("count(2)", x.count(2), 11);
        Check.dueThrow("decode()", IllegalArgumentException.class, x::decode);
        Check.due("count(2) behind decode()", x.count(2), 0);
    }

    private static void madeAndNow() {
        ChunkCode x = new ChunkCode();
        Check.due("count(3) before encode()", x.count(3), 0);
        Check.due("count(4)", x.count(4), 8);
        x.put(0, 64);
        Check.due("count(3) before encode()", x.count(3), 0);
        Check.due("count(4)", x.count(4), 11);
        x.encode();
        x.put(0, 63);
        x.put(1, Long.MIN_VALUE);
        Check.due("count(3)", x.count(3), 11);
        Check.due("count(4)", x.count(4), 21);
        x.put(1, 63);
        Check.due("count(4)", x.count(4), 10);
        x.erase(0, 63);
        Check.due("count(4)", x.count(4), 8);
        Check.due("count(3)", x.count(3), 11);
        x.encode();
        Check.due("count(3)", x.count(3), 8);
    }

    private static void noSuchCount() {
        ChunkCode x = Check.chunk(0, 1);
        for (int what : new int[] {-1, 5, 6, Integer.MIN_VALUE, Integer.MAX_VALUE}) {
            Check.dueThrow("count(" + what + ")", IllegalArgumentException.class, () -> x.count(what));
        }
    }
}
