/** Promise 8: feed. */
public final class Promise08FeedTest {
    public static void main(String[] args) {
        firstOctetsComeIn();
        wrongSizes();
        atMostAThousand();
        Check.end();
    }

    private static void firstOctetsComeIn() {
        ChunkCode x = new ChunkCode();
        // Octets by 3, 5, 1 and 1, the highest of each first; what is behind them is not fed.
        Check.due("feed by 3", x.feed(0x020000ffffffffffL, 3), 3);
        Check.due("feed by 5", x.feed(0x0000000080ffffffL, 5), 8);
        Check.due("feed by 1", x.feed(0x02ffffffffffffffL, 1), 9);
        Check.due("feed by 1", x.feed(0x0bffffffffffffffL, 1), 10);
        Check.due("decode()", x.decode(), 2);
        Check.due("get(1)", x.get(1), -6);
        Check.due("get(63)", x.get(63), -6);
        Check.due("feed behind decode()", x.feed(0, 4), 4);
        for (int n = 1; n <= 8; n++) {
            Check.due("feed(0, " + n + ")", new ChunkCode().feed(0, n), n);
        }
    }

    private static void wrongSizes() {
        ChunkCode x = new ChunkCode();
        for (int n : new int[] {0, -1, 9, 16, Integer.MIN_VALUE, Integer.MAX_VALUE}) {
            Check.dueThrow("feed(1, " + n + ")", IllegalArgumentException.class, () -> x.feed(1, n));
        }
        Check.due("count(2)", x.count(2), 0);
    }

    private static void atMostAThousand() {
        ChunkCode x = new ChunkCode();
        for (int i = 1; i <= 124; i++) {
            Check.due("feed(0, 8)", x.feed(0, 8), 8 * i);
        }
        Check.due("feed(0, 1)", x.feed(0, 1), 993);
        Check.dueThrow("feed(0, 8) with 993 fed", IndexOutOfBoundsException.class, () -> x.feed(0, 8));
        Check.due("count(2)", x.count(2), 993);
        Check.due("feed(0, 7)", x.feed(0, 7), 1000);
        Check.dueThrow("feed(0, 1) with 1000 fed", IndexOutOfBoundsException.class, () -> x.feed(0, 1));
        Check.due("count(2)", x.count(2), 1000);
        Check.dueThrow("decode()", IllegalArgumentException.class, x::decode);
        Check.due("wrong()", x.wrong(), 8);
        Check.due("feed(0, 8) behind decode()", x.feed(0, 8), 8);
    }
}
