/** Promise 2: put. */
public final class Promise02PutTest {
    public static void main(String[] args) {
        everyCellHoldsItsNumber();
        putAgainReplaces();
        noSuchCell();
        Check.end();
    }

    private static void everyCellHoldsItsNumber() {
        ChunkCode x = new ChunkCode();
        for (int k = 0; k < 64; k++) {
            x.put(k, numberFor(k));
            Check.due("count(0) behind put(" + k + ")", x.count(0), k + 1);
        }
        for (int k = 0; k < 64; k++) {
            Check.due("get(" + k + ")", x.get(k), numberFor(k));
        }
    }

    private static long numberFor(int k) {
        return (1L << k) - 3L * k;
    }

    private static void putAgainReplaces() {
        ChunkCode x = Check.chunk(31, 5, 31, Long.MIN_VALUE, 32, 0);
        Check.due("get(31)", x.get(31), Long.MIN_VALUE);
        Check.due("get(32), a 0 is a number", x.get(32), 0);
        Check.due("count(0)", x.count(0), 2);
        x.put(31, Long.MAX_VALUE);
        Check.due("get(31)", x.get(31), Long.MAX_VALUE);
    }

    private static void noSuchCell() {
        ChunkCode x = new ChunkCode();
        for (int k : new int[] {-1, 64, 65, 128, Integer.MIN_VALUE, Integer.MAX_VALUE}) {
            Check.dueThrow("put(" + k + ", 1)", IndexOutOfBoundsException.class, () -> { x.put(k, 1); return 0; });
        }
        Check.due("count(0)", x.count(0), 0);
    }
}
