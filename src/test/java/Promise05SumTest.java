/** Promise 5: sum. */
public final class Promise05SumTest {
    public static void main(String[] args) {
        everyRange();
        wrapsAround();
        emptyCellsDoNotCount();
        noSuchCell();
        Check.end();
    }

    private static void everyRange() {
        for (int a = 0; a < 64; a++) {
            // A new object for each, as one is used for 512 calls at most.
            ChunkCode x = new ChunkCode();
            for (int k = 0; k < 64; k += 3) {
                x.put(k, 1L << k);
            }
            for (int b = 0; b < 64; b++) {
                long want = 0;
                for (int k = a; k <= b; k++) {
                    want += k % 3 == 0 ? 1L << k : 0;
                }
                Check.due("sum(" + a + ", " + b + ")", x.sum(a, b), want);
            }
        }
    }

    private static void wrapsAround() {
        ChunkCode x = Check.chunk(1, Long.MAX_VALUE, 2, 2);
        Check.due("sum(1, 2)", x.sum(1, 2), Long.MIN_VALUE + 1);
    }

    private static void emptyCellsDoNotCount() {
        ChunkCode x = Check.chunk(1, 10, 2, 20, 3, 40);
        x.erase(2, 2);
        Check.due("sum(0, 63)", x.sum(0, 63), 50);
        Check.due("sum(2, 2)", x.sum(2, 2), 0);
    }

    private static void noSuchCell() {
        ChunkCode x = Check.chunk(0, 1);
        int[][] ranges = {{-1, 5}, {0, 64}, {64, 64}, {64, 0}, {0, -1}, {-1, -1},
            {Integer.MIN_VALUE, Integer.MAX_VALUE}, {Integer.MAX_VALUE, Integer.MIN_VALUE}};
        for (int[] range : ranges) {
            Check.dueThrow("sum(" + range[0] + ", " + range[1] + ")", IndexOutOfBoundsException.class,
                () -> x.sum(range[0], range[1]));
        }
    }
}
