/** Promise 3: erase. */
public final class Promise03EraseTest {
    public static void main(String[] args) {
        everyRange();
        emptyAgainAndFullAgain();
        noSuchCell();
        Check.end();
    }

    private static void everyRange() {
        for (int a = 0; a < 64; a++) {
            for (int b = 0; b < 64; b++) {
                ChunkCode x = new ChunkCode();
                for (int k = 0; k < 64; k++) {
                    x.put(k, k + 100);
                }
                x.erase(a, b);
                long left = 0;
                for (int k = 0; k < 64; k++) {
                    left += k >= a && k <= b ? 0 : k + 100;
                }
                Check.due("sum behind erase(" + a + ", " + b + ")", x.sum(0, 63), left);
                Check.due("count(0) behind erase(" + a + ", " + b + ")", x.count(0), a > b ? 64 : 64 - (b - a + 1));
            }
        }
    }

    private static void emptyAgainAndFullAgain() {
        ChunkCode x = Check.chunk(4, 9, 5, 9, 6, 9);
        x.erase(5, 5);
        Check.dueThrow("get(5)", UnsupportedOperationException.class, () -> x.get(5));
        Check.due("get(4)", x.get(4), 9);
        Check.due("get(6)", x.get(6), 9);
        x.erase(5, 5);
        x.put(5, -9);
        Check.due("get(5)", x.get(5), -9);
        x.erase(6, 4);
        Check.due("count(0) behind erase(6, 4)", x.count(0), 3);
    }

    private static void noSuchCell() {
        ChunkCode x = Check.chunk(0, 1, 63, 2);
        int[][] ranges = {{-1, 5}, {0, 64}, {64, 64}, {64, 0}, {0, -1}, {-1, -1},
            {Integer.MIN_VALUE, Integer.MAX_VALUE}, {Integer.MAX_VALUE, Integer.MIN_VALUE}};
        for (int[] range : ranges) {
            Check.dueThrow("erase(" + range[0] + ", " + range[1] + ")", IndexOutOfBoundsException.class,
                () -> { x.erase(range[0], range[1]); return 0; });
        }
        Check.due("count(0)", x.count(0), 2);
    }
}
