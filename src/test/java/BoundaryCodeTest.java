/** The boundaries that promises 6 and 7 name: encode and code. */
public final class BoundaryCodeTest {
    private static final int[] NEVER = {-1, -2, 90, 1 << 28, 1 << 29, -(1 << 29), (1 << 29) + 1, 1 << 30,
        Integer.MIN_VALUE, Integer.MIN_VALUE + 1, Integer.MAX_VALUE};

    /** A call between two looks at the code. */
    private interface Use {
        void on(ChunkCode x);
    }

    public static void main(String[] args) {
        Check.sentence("6: How many octets THE CODE has", BoundaryCodeTest::encodeAnswersHowMany);
        Check.sentence("6: as the CELLS are", BoundaryCodeTest::asTheCellsAre);
        Check.sentence("6: it can be looked at until this is done again",
            BoundaryCodeTest::lookedAtUntilDoneAgain);
        Check.sentence("6: until this is done again", BoundaryCodeTest::doneAgain);
        Check.sentence("7: Octets 8 k to 8 k + 7 of it, the first one highest",
            BoundaryCodeTest::octetsFirstOneHighest);
        Check.sentence("7: 0 behind the end", BoundaryCodeTest::zeroBehindTheEnd);
        Check.sentence("7: IndexOutOfBoundsException: there is none", BoundaryCodeTest::noSuchWord);
        Check.sentence("7: (of all before the first encode())", BoundaryCodeTest::noneBeforeTheFirstEncode);
        Check.end();
    }

    /** A chunk whose code has 8 octets or 10 and more: each cell of its own number takes two or more. */
    private static ChunkCode withOctets(int octets) {
        ChunkCode x = new ChunkCode();
        int left = octets - 8;
        long before = 0;
        for (int k = 0; k < 64 && left > 0; k++) {
            // Two at least are left for one more run, or none.
            int mine = left <= 11 ? left : left == 12 ? 10 : 11;
            long step = mine == 2 ? 1 : 1L << (7 * (mine - 2) - 1);
            before += step;
            x.put(k, before);
            left -= mine;
        }
        return x;
    }

    private static void encodeAnswersHowMany() {
        Check.due("encode() of no cells", new ChunkCode().encode(), 8);
        Check.due("encode() of one, the fewest", Check.chunk(0, 0).encode(), 10);
        Check.due("encode() of 64 in one run", sameEverywhere().encode(), 10);
        for (int octets = 10; octets <= 712; octets++) {
            ChunkCode x = withOctets(octets);
            Check.due("encode()", x.encode(), octets);
            Check.due("count(3)", x.count(3), octets);
        }
    }

    private static ChunkCode sameEverywhere() {
        ChunkCode x = new ChunkCode();
        for (int k = 0; k < 64; k++) {
            x.put(k, 0);
        }
        return x;
    }

    private static void asTheCellsAre() {
        ChunkCode x = new ChunkCode();
        Check.due("code at first", Check.hexOfCells(x), "0000000000000000");
        x.put(63, 1);
        Check.due("code behind put", Check.hexOfCells(x), "0000000000000080" + "0102");
        x.put(63, 64);
        Check.due("code behind put again", Check.hexOfCells(x), "0000000000000080" + "018001");
        Check.feedHex(x, "0300000000000000 02 04");
        x.decode();
        Check.due("code behind decode()", Check.hexOfCells(x), "0300000000000000" + "0204");
        Check.dueThrow("decode()", IllegalArgumentException.class, x::decode);
        Check.due("code behind decode() that was WRONG", Check.hexOfCells(x), "0300000000000000" + "0204");
        x.erase(1, 1);
        Check.due("code behind erase", Check.hexOfCells(x), "0100000000000000" + "0104");
        x.erase(0, 63);
        Check.due("code of no cells again", Check.hexOfCells(x), "0000000000000000");
    }

    private static void lookedAtUntilDoneAgain() {
        staysBehind("put", x -> x.put(0, 6));
        staysBehind("erase", x -> x.erase(0, 63));
        staysBehind("get", x -> x.get(0));
        staysBehind("sum", x -> x.sum(0, 63));
        staysBehind("code", x -> x.code(1));
        staysBehind("feed", x -> x.feed(-1, 8));
        staysBehind("decode", x -> {
            Check.feedHex(x, "0300000000000000 01 02 01 02");
            x.decode();
        });
        staysBehind("decode that is WRONG", x -> {
            Check.feedHex(x, "0300000000000000 01 02 02 02");
            Check.dueThrow("decode()", IllegalArgumentException.class, x::decode);
        });
        staysBehind("wrong", x -> x.wrong());
        for (int what = 0; what <= 4; what++) {
            int counted = what;
            staysBehind("count(" + what + ")", x -> x.count(counted));
        }
        staysBehind("another object's encode()", x -> Check.fullChunk().encode());
        // Full of other numbers by now: more runs and longer ones than it was made of.
        staysBehind("64 puts and counts", x -> {
            for (int k = 0; k < 64; k++) {
                x.put(k, Long.MIN_VALUE >> k);
            }
            x.count(1);
            x.count(4);
        });
    }

    private static void staysBehind(String call, Use use) {
        ChunkCode x = Check.chunk(0, 5, 7, -70);
        x.encode();
        use.on(x);
        Check.due("code behind " + call, Check.hexOfMade(x), "8100000000000000" + "010a" + "019501");
        use.on(x);
        Check.due("code behind " + call + " twice", Check.hexOfMade(x), "8100000000000000" + "010a" + "019501");
    }

    private static void doneAgain() {
        ChunkCode x = Check.chunk(0, Long.MIN_VALUE);
        Check.due("encode()", x.encode(), 19);
        x.erase(0, 0);
        Check.due("code(2), still", x.code(2), 0xffff010000000000L);
        Check.due("encode() again", x.encode(), 8);
        Check.due("code(0) is of the new one", x.code(0), 0);
        Check.dueThrow("code(1) is gone", IndexOutOfBoundsException.class, () -> x.code(1));
        x.put(8, 3);
        Check.due("code(0), still", x.code(0), 0);
        Check.dueThrow("code(1), not yet", IndexOutOfBoundsException.class, () -> x.code(1));
        Check.due("encode() once more", x.encode(), 10);
        Check.due("code(0)", x.code(0), 0x0001000000000000L);
        Check.due("code(1), nothing of the first is left", x.code(1), 0x0106000000000000L);
    }

    private static void octetsFirstOneHighest() {
        ChunkCode x = Check.chunk(1, 1, 10, 3, 19, 6, 28, 10, 37, 15, 46, 21, 55, 28, 56, 36);
        Check.due("encode()", x.encode(), 24);
        Check.due("code(0)", x.code(0), 0x0204081020408001L);
        Check.due("code(1)", x.code(1), 0x0102010401060108L);
        Check.due("code(2)", x.code(2), 0x010a010c010e0110L);
        // Octets of 128 and more in each of the eight places, which are no sign for those before them.
        ChunkCode full = Check.chunk(0, Long.MIN_VALUE, 1, 0);
        full.encode();
        Check.due("code(1)", full.code(1), 0x01ffffffffffffffL);
        Check.due("code(2)", full.code(2), 0xffff0101ffffffffL);
        Check.due("code(3)", full.code(3), 0xffffffffff010000L);
    }

    private static void zeroBehindTheEnd() {
        // A code of 10 to 17 octets has 6 octets of 0 behind it, then 5, and so on to none, then 7.
        String[] numbers = {"02", "8001", "808001", "80808001", "8080808001", "808080808001", "80808080808001",
            "8080808080808001"};
        for (int i = 0; i < numbers.length; i++) {
            long v = i == 0 ? 1 : 1L << (7 * i - 1);
            // A longer code was made before, of which nothing may show.
            ChunkCode x = Check.chunk(0, Long.MIN_VALUE, 1, 0);
            x.encode();
            x.erase(1, 1);
            x.put(0, v);
            int octets = x.encode();
            Check.due("encode()", octets, 10 + i);
            StringBuilder want = new StringBuilder("01" + numbers[i]);
            while (want.length() % 16 != 0) {
                want.append("00");
            }
            Check.due("code(1)", x.code(1), Long.parseUnsignedLong(want.substring(0, 16), 16));
            if (octets > 16) {
                Check.due("code(2)", x.code(2), Long.parseUnsignedLong(want.substring(16), 16));
            }
        }
    }

    private static void noSuchWord() {
        for (int octets : new int[] {8, 10, 15, 16, 17, 18, 24, 25, 704, 705, 711, 712}) {
            ChunkCode x = withOctets(octets);
            x.encode();
            int last = (octets - 1) / 8;
            // Octet 8 * last is there, and is 0 only where no cell is.
            Check.due("code(" + last + ") of " + octets + " octets is 0",
                x.code(last) == 0 ? 1 : 0, octets == 8 ? 1 : 0);
            Check.dueThrow("code(" + (last + 1) + ") of " + octets + " octets", IndexOutOfBoundsException.class,
                () -> x.code(last + 1));
            dueNever(x);
        }
    }

    private static void dueNever(ChunkCode x) {
        for (int k : NEVER) {
            Check.dueThrow("code(" + k + ")", IndexOutOfBoundsException.class, () -> x.code(k));
        }
    }

    private static void noneBeforeTheFirstEncode() {
        ChunkCode x = new ChunkCode();
        Check.dueThrow("code(0)", IndexOutOfBoundsException.class, () -> x.code(0));
        x.put(0, 1);
        x.count(4);
        Check.feedHex(x, "0100000000000000 01 02");
        Check.dueThrow("code(0) with octets fed", IndexOutOfBoundsException.class, () -> x.code(0));
        x.decode();
        for (int k = 0; k <= 89; k++) {
            int word = k;
            Check.dueThrow("code(" + k + ")", IndexOutOfBoundsException.class, () -> x.code(word));
        }
        dueNever(x);
        x.encode();
        Check.due("code(0)", x.code(0), 1L << 56);
        Check.due("code(1)", x.code(1), 0x0102000000000000L);
        ChunkCode empty = new ChunkCode();
        empty.encode();
        Check.due("code(0) of no cells", empty.code(0), 0);
        Check.dueThrow("code(1) of no cells", IndexOutOfBoundsException.class, () -> empty.code(1));
    }
}
