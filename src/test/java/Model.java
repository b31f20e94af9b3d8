import java.io.ByteArrayOutputStream;
import java.math.BigInteger;

/** The document once more, written another way: slow, with objects for empty, and big numbers. */
final class Model {
    private static final BigInteger TWO_TO_64 = BigInteger.ONE.shiftLeft(64);

    Long[] cells = new Long[64];
    byte[] made = new byte[0];
    ByteArrayOutputStream fed = new ByteArrayOutputStream();
    int wrong = -1;

    int full() {
        int full = 0;
        for (Long cell : cells) {
            full += cell == null ? 0 : 1;
        }
        return full;
    }

    int runs() {
        int runs = 0;
        Long before = null;
        for (Long cell : cells) {
            if (cell != null) {
                runs += cell.equals(before) ? 0 : 1;
                before = cell;
            }
        }
        return runs;
    }

    byte[] codeNow() {
        return codeOf(cells);
    }

    static byte[] codeOf(Long[] cells) {
        ByteArrayOutputStream code = new ByteArrayOutputStream();
        for (int octet = 0; octet < 8; octet++) {
            int bits = 0;
            for (int bit = 0; bit < 8; bit++) {
                bits += cells[8 * octet + bit] == null ? 0 : 1 << bit;
            }
            code.write(bits);
        }
        long before = 0;
        int k = 0;
        while (k < 64) {
            if (cells[k] == null) {
                k++;
                continue;
            }
            long number = cells[k];
            int many = 0;
            while (k < 64 && (cells[k] == null || cells[k] == number)) {
                many += cells[k] == null ? 0 : 1;
                k++;
            }
            code.write(many);
            writeNumber(code, number - before);
            before = number;
        }
        return code.toByteArray();
    }

    private static void writeNumber(ByteArrayOutputStream code, long d) {
        BigInteger big = BigInteger.valueOf(d);
        BigInteger rest = d >= 0 ? big.shiftLeft(1) : big.negate().shiftLeft(1).subtract(BigInteger.ONE);
        while (rest.bitLength() > 7) {
            code.write(rest.intValue() & 127 | 128);
            rest = rest.shiftRight(7);
        }
        code.write(rest.intValue());
    }

    /** Answers how many cells are full, or -1 if what is fed is no code. */
    int decode() {
        byte[] in = fed.toByteArray();
        fed.reset();
        Long[] read = new Long[64];
        wrong = firstWrong(in, read);
        if (wrong >= 0) {
            return -1;
        }
        cells = read;
        return full();
    }

    private static int firstWrong(byte[] in, Long[] read) {
        if (in.length < 8) {
            return in.length;
        }
        int[] full = java.util.stream.IntStream.range(0, 64).filter(k -> (in[k / 8] >> k % 8 & 1) == 1).toArray();
        int at = 8;
        int done = 0;
        BigInteger number = BigInteger.ZERO;
        while (done < full.length) {
            if (at == in.length || in[at] < 1 || in[at] > full.length - done) {
                return at;
            }
            int many = in[at++];
            int end = at;
            while (end < in.length && end < at + 9 && in[end] < 0) {
                end++;
            }
            BigInteger folded = BigInteger.ZERO;
            for (int i = end; i >= at && end < in.length; i--) {
                folded = folded.shiftLeft(7).add(BigInteger.valueOf(in[i] & 127));
            }
            boolean stands = end < in.length && in[end] >= 0 && folded.compareTo(TWO_TO_64) < 0
                && (end == at || in[end] != 0) && (done == 0 || folded.signum() != 0);
            if (!stands) {
                return end;
            }
            BigInteger half = folded.shiftRight(1);
            number = number.add(folded.testBit(0) ? half.negate().subtract(BigInteger.ONE) : half);
            for (int i = 0; i < many; i++) {
                read[full[done++]] = number.longValue();
            }
            at = end + 1;
        }
        return at < in.length ? at : -1;
    }
}
