/** A chunk of sixty-four cells, each a number or empty, and its code as octets. */
public final class ChunkCode {
    private static final int CELLS = 64;
    private static final int MASK_OCTETS = 8;
    private static final int WORD_OCTETS = 8;
    private static final int LAST_SHIFT = 63;
    private static final int NUMBER_OCTETS_MOST = 10;
    // The longest code: each cell is a run of its own, with the longest number.
    private static final int CODE_MOST = MASK_OCTETS + CELLS * (1 + NUMBER_OCTETS_MOST);
    private static final int FED_MOST = 1000;
    private static final int NOT_WRONG = -1;

    private Cells cells;
    // What decode() reads into, so that the cells stay if the code is wrong.
    private Cells spare;
    private final Runs runs;
    private final Octets made;
    private final Octets fed;
    private final Reader reader;
    private int wrongAt;

    public ChunkCode() {
        cells = new Cells();
        spare = new Cells();
        runs = new Runs();
        made = new Octets(CODE_MOST);
        fed = new Octets(FED_MOST);
        reader = new Reader();
        wrongAt = NOT_WRONG;
    }

    public void put(int k, long v) throws IndexOutOfBoundsException {
        needCell(k);
        cells.fill(k, v);
    }

    public void erase(int a, int b) throws IndexOutOfBoundsException {
        needCell(a);
        needCell(b);
        for (int k = a; k <= b; k++) {
            cells.clear(k);
        }
    }

    public long get(int k) throws IndexOutOfBoundsException, UnsupportedOperationException {
        needCell(k);
        if (!cells.isFull(k)) {
            throw new UnsupportedOperationException("the cell is empty");
        }
        return cells.number(k);
    }

    public long sum(int a, int b) throws IndexOutOfBoundsException {
        needCell(a);
        needCell(b);
        long total = 0;
        for (int k = a; k <= b; k++) {
            if (cells.isFull(k)) {
                total += cells.number(k);
            }
        }
        return total;
    }

    public int encode() {
        runs.gather(cells);
        made.clear();
        for (int i = 0; i < MASK_OCTETS; i++) {
            made.add((int) (cells.mask() >>> (8 * i)));
        }
        for (int r = 0; r < runs.many(); r++) {
            made.add(runs.size(r));
            addNumber(made, runs.folded(r));
        }
        return made.length();
    }

    public long code(int k) throws IndexOutOfBoundsException {
        // Words are counted, as 8 * k could wrap.
        int words = (made.length() + WORD_OCTETS - 1) / WORD_OCTETS;
        if (k < 0 || k >= words) {
            throw new IndexOutOfBoundsException("the code has no such octets");
        }
        long word = 0;
        for (int i = 0; i < WORD_OCTETS; i++) {
            word = (word << 8) | made.octetOrZero(WORD_OCTETS * k + i);
        }
        return word;
    }

    public int feed(long w, int n) throws IllegalArgumentException, IndexOutOfBoundsException {
        if (n < 1 || n > WORD_OCTETS) {
            throw new IllegalArgumentException("a feed is of 1 to 8 octets");
        }
        if (fed.length() + n > FED_MOST) {
            throw new IndexOutOfBoundsException("more would be fed than there is room for");
        }
        for (int i = 0; i < n; i++) {
            fed.add((int) (w >>> (56 - 8 * i)));
        }
        return fed.length();
    }

    public int decode() throws IllegalArgumentException {
        boolean isCode = reader.read(fed, spare);
        fed.clear();
        if (!isCode) {
            wrongAt = reader.at();
            throw new IllegalArgumentException("what was fed is no code");
        }
        wrongAt = NOT_WRONG;
        Cells old = cells;
        cells = spare;
        spare = old;
        return cells.many();
    }

    public int wrong() {
        return wrongAt;
    }

    public int count(int what) throws IllegalArgumentException {
        switch (what) {
            case 0:
                return cells.many();
            case 1:
                runs.gather(cells);
                return runs.many();
            case 2:
                return fed.length();
            case 3:
                return made.length();
            case 4:
                return octetsNow();
            default:
                throw new IllegalArgumentException("there is no such count");
        }
    }

    private static void needCell(int k) {
        if (k < 0 || k >= CELLS) {
            throw new IndexOutOfBoundsException("there is no such cell");
        }
    }

    private int octetsNow() {
        runs.gather(cells);
        int octets = MASK_OCTETS;
        for (int r = 0; r < runs.many(); r++) {
            octets += 1 + numberOctets(runs.folded(r));
        }
        return octets;
    }

    private static int numberOctets(long number) {
        int octets = 1;
        for (int shift = 7; shift <= LAST_SHIFT; shift += 7) {
            if (number >>> shift != 0) {
                octets++;
            }
        }
        return octets;
    }

    private static void addNumber(Octets octets, long number) {
        int last = numberOctets(number) - 1;
        for (int i = 0; i < last; i++) {
            octets.add((int) (number >>> (7 * i)) | 128);
        }
        octets.add((int) (number >>> (7 * last)));
    }

    /** The cells: which of them are not empty, and their numbers. */
    private static final class Cells {
        private final long[] numbers = new long[CELLS];
        // Bit k is cell k, so that octet i of the code's mask is bits 8 i to 8 i + 7.
        private long mask;

        boolean isFull(int k) {
            return ((mask >>> k) & 1) == 1;
        }

        long number(int k) {
            return numbers[k];
        }

        void fill(int k, long number) {
            numbers[k] = number;
            mask |= 1L << k;
        }

        void clear(int k) {
            mask &= ~(1L << k);
        }

        void clearAll() {
            mask = 0;
        }

        int many() {
            return Long.bitCount(mask);
        }

        long mask() {
            return mask;
        }
    }

    /** The runs of the cells, gathered anew whenever they are asked for. */
    private static final class Runs {
        private final long[] numbers = new long[CELLS];
        private final int[] sizes = new int[CELLS];
        private int many;

        void gather(Cells cells) {
            many = 0;
            for (int k = 0; k < CELLS; k++) {
                if (cells.isFull(k)) {
                    addCell(cells.number(k));
                }
            }
        }

        int many() {
            return many;
        }

        int size(int r) {
            return sizes[r];
        }

        /** The step from the run before, its sign folded into the lowest bit. */
        long folded(int r) {
            long before = r == 0 ? 0 : numbers[r - 1];
            long step = numbers[r] - before;
            return (step << 1) ^ (step >> 63);
        }

        private void addCell(long number) {
            if (many == 0 || numbers[many - 1] != number) {
                numbers[many] = number;
                sizes[many] = 0;
                many++;
            }
            sizes[many - 1]++;
        }
    }

    /** A row of octets that grows up to a room given once. */
    private static final class Octets {
        private final byte[] row;
        private int length;

        Octets(int room) {
            row = new byte[room];
        }

        void clear() {
            length = 0;
        }

        /** Its callers keep within the room: feed() by its check, encode() as no code is longer. */
        void add(int octet) {
            row[length] = (byte) octet;
            length++;
        }

        int length() {
            return length;
        }

        int octetOrZero(int k) {
            return k < length ? row[k] & 255 : 0;
        }
    }

    /** Reads octets as a code, and stands still at the first that can not stand where it is. */
    private static final class Reader {
        private int at;
        private long folded;

        int at() {
            return at;
        }

        boolean read(Octets octets, Cells into) {
            at = 0;
            into.clearAll();
            if (octets.length() < MASK_OCTETS) {
                at = octets.length();
                return false;
            }
            long mask = readMask(octets);
            return readRuns(octets, mask, into) && at == octets.length();
        }

        private long readMask(Octets octets) {
            long mask = 0;
            for (int i = 0; i < MASK_OCTETS; i++) {
                mask |= (long) octets.octetOrZero(i) << (8 * i);
            }
            at = MASK_OCTETS;
            return mask;
        }

        private boolean readRuns(Octets octets, long mask, Cells into) {
            int left = Long.bitCount(mask);
            int leftOfRun = 0;
            long number = 0;
            boolean first = true;
            for (int k = 0; k < CELLS; k++) {
                if (((mask >>> k) & 1) == 0) {
                    continue;
                }
                if (leftOfRun == 0) {
                    leftOfRun = readSize(octets, left);
                    if (leftOfRun == 0 || !readFolded(octets, first)) {
                        return false;
                    }
                    number += (folded >>> 1) ^ -(folded & 1);
                    first = false;
                }
                into.fill(k, number);
                left--;
                leftOfRun--;
            }
            return true;
        }

        /** How many cells the next run has; 0 if that octet is missing or can not stand. */
        private int readSize(Octets octets, int left) {
            int size = octets.octetOrZero(at);
            if (size == 0 || size > left) {
                return 0;
            }
            at++;
            return size;
        }

        private boolean readFolded(Octets octets, boolean zeroStands) {
            folded = 0;
            for (int shift = 0; shift <= LAST_SHIFT; shift += 7) {
                if (at >= octets.length()) {
                    return false;
                }
                int octet = octets.octetOrZero(at);
                // Only one bit is left for the tenth octet, and none for an eleventh.
                if (shift == LAST_SHIFT && octet > 1) {
                    return false;
                }
                folded |= (long) (octet & 127) << shift;
                if (octet < 128) {
                    return endFolded(octet == 0 && shift > 0, zeroStands);
                }
                at++;
            }
            return false;
        }

        private boolean endFolded(boolean notNeeded, boolean zeroStands) {
            if (notNeeded || (folded == 0 && !zeroStands)) {
                return false;
            }
            at++;
            return true;
        }
    }
}
