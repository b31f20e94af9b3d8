/** What the tests share: answers and exceptions that are due, and octets written as hex. */
final class Check {
    /** A call whose answer is looked at. */
    interface Call {
        long answer();
    }

    private static int failures = 0;
    private static String sentence = "";

    private Check() {
    }

    /** The test of one sentence of the document, which its failures tell; those behind it run also if it throws. */
    static void sentence(String text, Runnable test) {
        sentence = " | " + text;
        try {
            test.run();
        } catch (RuntimeException e) {
            failed("a call threw " + e + " where an answer is due, " + placeOf(e));
        }
        sentence = "";
    }

    private static String placeOf(RuntimeException e) {
        for (StackTraceElement place : e.getStackTrace()) {
            if (place.getClassName().endsWith("Test")) {
                return place.toString();
            }
        }
        return "no place of a test";
    }

    static void due(String what, long got, long want) {
        if (got != want) {
            failed(what + " answered " + got + ", due is " + want);
        }
    }

    static void due(String what, String got, String want) {
        if (!got.equals(want)) {
            failed(what + " is " + got + ", due is " + want);
        }
    }

    /** The very class is due, as a subclass would be an exception that Java threw by itself. */
    static void dueThrow(String what, Class<? extends RuntimeException> want, Call call) {
        try {
            failed(what + " answered " + call.answer() + ", due is " + want.getSimpleName());
        } catch (RuntimeException e) {
            if (e.getClass() != want) {
                failed(what + " threw " + e.getClass().getName() + ", due is " + want.getSimpleName());
            }
        }
    }

    static void failed(String text) {
        failures++;
        System.out.println(text + sentence);
    }

    static void end() {
        if (failures != 0) {
            System.out.println(failures + " answers are not as due");
            System.exit(1);
        }
    }

    static ChunkCode chunk(long... cellsAndNumbers) {
        ChunkCode x = new ChunkCode();
        for (int i = 0; i < cellsAndNumbers.length; i += 2) {
            x.put((int) cellsAndNumbers[i], cellsAndNumbers[i + 1]);
        }
        return x;
    }

    /** No cell is empty, and each has a number of its own. */
    static ChunkCode fullChunk() {
        ChunkCode x = new ChunkCode();
        for (int k = 0; k < 64; k++) {
            x.put(k, numberOf(k));
        }
        return x;
    }

    static long numberOf(int k) {
        return 100 + 3 * k;
    }

    /** The cells alone, as one text. */
    static String cells(ChunkCode x) {
        String state = state(x);
        return state.substring(0, state.indexOf(" count"));
    }

    /** The code of the cells as they are, which encode() makes anew. */
    static String hexOfCells(ChunkCode x) {
        int length = x.encode();
        String hex = hexOfMade(x);
        due("encode() and count(3)", length, hex.length() / 2);
        return hex;
    }

    /** Every call that answers about the state, as one text: two equal texts are two equal states. */
    static String state(ChunkCode x) {
        StringBuilder text = new StringBuilder();
        for (int k = 0; k < 64; k++) {
            try {
                long number = x.get(k);
                text.append(k).append('=').append(number).append(' ');
            } catch (UnsupportedOperationException e) {
                // An empty cell is left out of the text.
            }
        }
        for (int what = 0; what <= 4; what++) {
            text.append(" count").append(what).append('=').append(x.count(what));
        }
        return text.append(" wrong=").append(x.wrong()).append(" code=").append(hexOfMade(x)).toString();
    }

    /** The octets of the code that was made last, by code() and count(3) alone. */
    static String hexOfMade(ChunkCode x) {
        int length = x.count(3);
        StringBuilder hex = new StringBuilder();
        for (int k = 0; 8 * k < length; k++) {
            hex.append(String.format("%016x", x.code(k)));
        }
        return hex.substring(0, 2 * length);
    }

    static String hexOf(byte[] octets) {
        StringBuilder hex = new StringBuilder();
        for (byte octet : octets) {
            hex.append(String.format("%02x", octet));
        }
        return hex.toString();
    }

    static byte[] octetsOf(String hex) {
        String digits = hex.replace(" ", "");
        byte[] octets = new byte[digits.length() / 2];
        for (int i = 0; i < octets.length; i++) {
            octets[i] = (byte) Integer.parseInt(digits.substring(2 * i, 2 * i + 2), 16);
        }
        return octets;
    }

    static void feedHex(ChunkCode x, String hex) {
        feedOctets(x, octetsOf(hex));
    }

    static void feedOctets(ChunkCode x, byte[] octets) {
        for (int from = 0; from < octets.length; from += 8) {
            int n = Math.min(8, octets.length - from);
            long w = 0;
            for (int i = 0; i < 8; i++) {
                // What lies behind the n octets must not matter, so it is not 0.
                w = (w << 8) | (i < n ? octets[from + i] & 255 : 0xa5);
            }
            x.feed(w, n);
        }
    }
}
