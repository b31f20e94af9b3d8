/** The boundaries that promise 8 names: feed. */
public final class BoundaryFeedTest {
    public static void main(String[] args) {
        Check.sentence("8: The n first octets of w (the highest first) come to what is fed",
            BoundaryFeedTest::firstOctetsHighestFirst);
        Check.sentence("8: how many are", BoundaryFeedTest::howManyAreFed);
        Check.sentence("8: IllegalArgumentException: n is not 1..8", BoundaryFeedTest::sizes);
        Check.sentence("8: IndexOutOfBoundsException: there would be more than 1000",
            BoundaryFeedTest::notMoreThanAThousand);
        Check.sentence("8: there would be more than 1000", BoundaryFeedTest::roomAgainBehindDecode);
        Check.end();
    }

    private static void feed(ChunkCode x, int octets) {
        for (int left = octets; left > 0; left -= 8) {
            x.feed(0, Math.min(8, left));
        }
    }

    private static void firstOctetsHighestFirst() {
        byte[] code = Check.octetsOf("ff00000000000080 01 ff02 02 8301 05 84808080808080808001 01 01");
        String cells = "0=-192 1=-258 2=-258 3=" + (4611686018427387906L - 258) + " 4=" + (4611686018427387906L - 258)
            + " 5=" + (4611686018427387906L - 258) + " 6=" + (4611686018427387906L - 258)
            + " 7=" + (4611686018427387906L - 258) + " 63=" + (4611686018427387906L - 259) + " ";
        for (int n = 1; n <= 8; n++) {
            ChunkCode x = new ChunkCode();
            for (int from = 0; from < code.length; from += n) {
                x.feed(wordFrom(code, from), Math.min(n, code.length - from));
            }
            Check.due("count(2), fed by " + n, x.count(2), code.length);
            Check.due("decode(), fed by " + n, x.decode(), 9);
            Check.due("cells, fed by " + n, Check.cells(x), cells);
        }
    }

    /** Eight octets, also where fewer are fed: those behind must not come in. */
    private static long wordFrom(byte[] code, int from) {
        long w = 0;
        for (int i = from; i < from + 8; i++) {
            w = (w << 8) | (i < code.length ? code[i] & 255 : 255);
        }
        return w;
    }

    private static void howManyAreFed() {
        ChunkCode x = new ChunkCode();
        int fed = 0;
        for (int n = 1; n <= 8; n++) {
            fed += n;
            Check.due("feed(-1, " + n + ")", x.feed(-1, n), fed);
            Check.due("count(2)", x.count(2), fed);
        }
    }

    private static void sizes() {
        for (int n = 1; n <= 8; n++) {
            Check.due("feed(-1, " + n + ")", new ChunkCode().feed(-1, n), n);
        }
        ChunkCode x = new ChunkCode();
        x.feed(0, 3);
        for (int n : new int[] {0, 9, -1, -8, 16, 256, 257, 1 << 16, Integer.MIN_VALUE, Integer.MIN_VALUE + 1,
            Integer.MAX_VALUE}) {
            Check.dueThrow("feed(0, " + n + ")", IllegalArgumentException.class, () -> x.feed(0, n));
            Check.due("count(2) behind feed(0, " + n + ")", x.count(2), 3);
        }
    }

    private static void notMoreThanAThousand() {
        for (int n = 1; n <= 8; n++) {
            int octets = n;
            ChunkCode x = new ChunkCode();
            feed(x, 1000 - n);
            Check.due("feed(0, " + n + ") up to 1000", x.feed(0, n), 1000);
            ChunkCode y = new ChunkCode();
            feed(y, 1001 - n);
            Check.dueThrow("feed(0, " + n + ") up to 1001", IndexOutOfBoundsException.class, () -> y.feed(0, octets));
            Check.due("count(2)", y.count(2), 1001 - n);
            if (n > 1) {
                Check.due("feed(0, " + (n - 1) + ") up to 1000", y.feed(0, n - 1), 1000);
            }
            Check.dueThrow("feed(0, 1) up to 1001", IndexOutOfBoundsException.class, () -> y.feed(0, 1));
        }
    }

    private static void roomAgainBehindDecode() {
        ChunkCode x = new ChunkCode();
        for (int times = 0; times < 3; times++) {
            feed(x, 1000);
            Check.dueThrow("feed(0, 1) up to 1001", IndexOutOfBoundsException.class, () -> x.feed(0, 1));
            Check.dueThrow("decode()", IllegalArgumentException.class, x::decode);
        }
        Check.due("feed(0, 8)", x.feed(0, 8), 8);
        Check.due("decode()", x.decode(), 0);
        feed(x, 1000);
        Check.due("count(2)", x.count(2), 1000);
    }
}
