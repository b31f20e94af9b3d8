/** Promise 10: wrong. */
public final class Promise10WrongTest {
    public static void main(String[] args) {
        ChunkCode x = new ChunkCode();
        Check.due("wrong() of a new object", x.wrong(), -1);
        x.feed(0, 5);
        x.encode();
        Check.due("wrong() before decode()", x.wrong(), -1);
        decodeWrong(x);
        Check.due("wrong()", x.wrong(), 5);
        x.put(1, 1);
        x.erase(0, 5);
        x.encode();
        x.feed(0, 8);
        Check.dueThrow("feed(0, 9)", IllegalArgumentException.class, () -> x.feed(0, 9));
        Check.due("wrong() stays until the next decode()", x.wrong(), 5);
        x.decode();
        Check.due("wrong() behind a right one", x.wrong(), -1);
        decodeWrong(x);
        Check.due("wrong() with nothing fed", x.wrong(), 0);
        x.feed(0, 8);
        x.feed(0, 8);
        decodeWrong(x);
        Check.due("wrong() is of the latest", x.wrong(), 8);
        Check.due("wrong() again", x.wrong(), 8);
        Check.end();
    }

    private static void decodeWrong(ChunkCode x) {
        Check.dueThrow("decode()", IllegalArgumentException.class, x::decode);
    }
}
