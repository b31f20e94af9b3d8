/** "What it is": how long an object is used, on both sides of its last call. */
public final class BoundaryUseTest {
    private static final String USED = "An object is used for at most 512 calls after it has been made";
    private static final int CALLS = 512;
    private static final long[] LONGEST = longestCode();

    public static void main(String[] args) {
        Check.sentence(USED, BoundaryUseTest::theLastCallAnswers);
        Check.sentence(USED, BoundaryUseTest::theLastCallRefuses);
        Check.sentence(USED, BoundaryUseTest::oneKindOfCallAllAlong);
        Check.sentence("what later calls answer is free", BoundaryUseTest::laterCallsEndAndThrowNothingElse);
        Check.end();
    }

    private static long numberOf(int k) {
        return k % 2 == 0 ? Long.MIN_VALUE : 0;
    }

    private static ChunkCode withLongestCode() {
        ChunkCode x = new ChunkCode();
        for (int k = 0; k < 64; k++) {
            x.put(k, numberOf(k));
        }
        return x;
    }

    private static long[] longestCode() {
        ChunkCode x = withLongestCode();
        long[] words = new long[x.encode() / 8];
        for (int k = 0; k < words.length; k++) {
            words[k] = x.code(k);
        }
        return words;
    }

    /** Used with the dearest calls there are: the longest code goes out and comes in, again and again. */
    private static ChunkCode usedFor(int calls) {
        ChunkCode x = withLongestCode();
        int spent = 64;
        while (spent + LONGEST.length + 2 <= calls) {
            Check.due("encode() behind " + spent + " calls", x.encode(), 712);
            for (long word : LONGEST) {
                x.feed(word, 8);
            }
            Check.due("decode() behind " + spent + " calls", x.decode(), 64);
            spent += LONGEST.length + 2;
        }
        while (spent < calls) {
            Check.due("get behind " + spent + " calls", x.get(spent % 64), numberOf(spent % 64));
            spent++;
        }
        return x;
    }

    private static void theLastCallAnswers() {
        int before = CALLS - 1;
        Check.due("512th call get(62)", usedFor(before).get(62), Long.MIN_VALUE);
        Check.due("512th call sum(0, 60)", usedFor(before).sum(0, 60), Long.MIN_VALUE);
        Check.due("512th call encode()", usedFor(before).encode(), 712);
        Check.due("512th call code(88)", usedFor(before).code(88), 0xffffffffffffff01L);
        Check.due("512th call feed(1, 8)", usedFor(before).feed(1, 8), 8);
        Check.due("512th call wrong()", usedFor(before).wrong(), -1);
        long[] counts = {64, 64, 0, 712, 712};
        for (int what = 0; what < counts.length; what++) {
            Check.due("512th call count(" + what + ")", usedFor(before).count(what), counts[what]);
        }
        ChunkCode put = usedFor(CALLS - 2);
        put.put(63, 5);
        Check.due("512th call get(63) behind put(63, 5)", put.get(63), 5);
        ChunkCode erased = usedFor(CALLS - 2);
        erased.erase(0, 61);
        Check.due("512th call count(0) behind erase(0, 61)", erased.count(0), 2);
        ChunkCode fed = usedFor(CALLS - 2);
        fed.feed(0, 8);
        Check.due("512th call decode()", fed.decode(), 0);
    }

    private static void theLastCallRefuses() {
        ChunkCode x = usedFor(CALLS - 1);
        Check.dueThrow("512th call get(64)", IndexOutOfBoundsException.class, () -> x.get(64));
        ChunkCode y = usedFor(CALLS - 1);
        Check.dueThrow("512th call decode()", IllegalArgumentException.class, y::decode);
        ChunkCode z = usedFor(CALLS - 2);
        z.erase(1, 1);
        Check.dueThrow("512th call get(1)", UnsupportedOperationException.class, () -> z.get(1));
    }

    private static void oneKindOfCallAllAlong() {
        ChunkCode encoded = new ChunkCode();
        ChunkCode fed = new ChunkCode();
        ChunkCode decoded = new ChunkCode();
        for (int call = 1; call <= CALLS; call++) {
            Check.due("encode() as call " + call, encoded.encode(), 8);
            Check.dueThrow("decode() as call " + call, IllegalArgumentException.class, decoded::decode);
            if (call <= 125) {
                Check.due("feed(0, 8) as call " + call, fed.feed(0, 8), 8 * call);
            } else {
                Check.dueThrow("feed(0, 8) as call " + call, IndexOutOfBoundsException.class, () -> fed.feed(0, 8));
            }
        }
    }

    /** The document leaves the answers free; that no call throws by itself, LANGUAGE.md asks of all. */
    private static void laterCallsEndAndThrowNothingElse() {
        ChunkCode x = usedFor(CALLS);
        for (int call = CALLS + 1; call <= 8 * CALLS; call++) {
            int k = call;
            onlyFaceThrows(call, () -> { x.put(k % 65, Long.MIN_VALUE + k); return 0; });
            onlyFaceThrows(call, () -> x.encode());
            onlyFaceThrows(call, () -> x.code(k % 91));
            onlyFaceThrows(call, () -> x.feed(LONGEST[k % 89], k % 10));
            onlyFaceThrows(call, () -> k % 200 == 0 ? x.decode() : x.wrong());
            onlyFaceThrows(call, () -> x.count(k % 6));
        }
    }

    private static void onlyFaceThrows(int call, Check.Call use) {
        try {
            use.answer();
        } catch (RuntimeException e) {
            boolean ofTheFace = e.getClass() == IndexOutOfBoundsException.class
                || e.getClass() == IllegalArgumentException.class;
            if (!ofTheFace) {
                Check.failed("behind " + call + " calls: " + e);
            }
        }
    }
}
