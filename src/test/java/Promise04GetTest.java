/** Promise 4: get. */
public final class Promise04GetTest {
    public static void main(String[] args) {
        ChunkCode x = Check.chunk(0, -5, 32, Long.MAX_VALUE, 63, 0);
        Check.due("get(0)", x.get(0), -5);
        Check.due("get(32)", x.get(32), Long.MAX_VALUE);
        Check.due("get(63)", x.get(63), 0);
        Check.due("get(63) again", x.get(63), 0);
        for (int k : new int[] {1, 31, 33, 62}) {
            Check.dueThrow("get(" + k + ")", UnsupportedOperationException.class, () -> x.get(k));
        }
        for (int k : new int[] {-1, 64, 96, Integer.MIN_VALUE, Integer.MAX_VALUE}) {
            Check.dueThrow("get(" + k + ")", IndexOutOfBoundsException.class, () -> x.get(k));
        }
        Check.end();
    }
}
