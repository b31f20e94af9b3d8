/** Promise 1: a new object; which exception comes first; a call that throws changes nothing. */
public final class Promise01NewObjectTest {
    public static void main(String[] args) {
        newObjectIsEmpty();
        objectsAreApart();
        firstNamedExceptionIsThrown();
        throwingCallsChangeNothing();
        Check.end();
    }

    private static void newObjectIsEmpty() {
        ChunkCode x = new ChunkCode();
        Check.due("state of a new object", Check.state(x),
            " count0=0 count1=0 count2=0 count3=0 count4=8 wrong=-1 code=");
        Check.due("sum(0, 63) of a new object", x.sum(0, 63), 0);
        Check.due("first feed", x.feed(0, 1), 1);
    }

    private static void objectsAreApart() {
        ChunkCode x = new ChunkCode();
        ChunkCode y = new ChunkCode();
        x.put(1, 5);
        x.feed(0, 3);
        x.encode();
        Check.due("state of the other object", Check.state(y), Check.state(new ChunkCode()));
    }

    private static void firstNamedExceptionIsThrown() {
        ChunkCode x = new ChunkCode();
        for (int i = 0; i < 125; i++) {
            x.feed(0, 8);
        }
        Check.dueThrow("feed(0, 9) with 1000 fed", IllegalArgumentException.class, () -> x.feed(0, 9));
        Check.dueThrow("feed(0, 0) with 1000 fed", IllegalArgumentException.class, () -> x.feed(0, 0));
        Check.dueThrow("get(64)", IndexOutOfBoundsException.class, () -> x.get(64));
    }

    private static void throwingCallsChangeNothing() {
        ChunkCode x = Check.chunk(0, 7, 5, 7, 63, -2);
        x.encode();
        x.put(6, 1);
        x.feed(1, 2);
        Check.dueThrow("decode()", IllegalArgumentException.class, x::decode);
        x.feed(1, 5);
        String before = Check.state(x);
        Check.dueThrow("put(64, 1)", IndexOutOfBoundsException.class, () -> { x.put(64, 1); return 0; });
        Check.dueThrow("erase(0, 64)", IndexOutOfBoundsException.class, () -> { x.erase(0, 64); return 0; });
        Check.dueThrow("erase(-1, 63)", IndexOutOfBoundsException.class, () -> { x.erase(-1, 63); return 0; });
        Check.dueThrow("get(1)", UnsupportedOperationException.class, () -> x.get(1));
        Check.dueThrow("sum(0, 64)", IndexOutOfBoundsException.class, () -> x.sum(0, 64));
        Check.dueThrow("code(9)", IndexOutOfBoundsException.class, () -> x.code(9));
        Check.dueThrow("feed(-1, 9)", IllegalArgumentException.class, () -> x.feed(-1, 9));
        Check.dueThrow("count(5)", IllegalArgumentException.class, () -> x.count(5));
        Check.due("state behind calls that threw", Check.state(x), before);
    }
}
