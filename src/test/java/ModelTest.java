import java.util.Arrays;
import java.util.Random;

/** Long runs of mixed calls on the class and on the model, with the same answers due. */
public final class ModelTest {
    private static final int RUNS = 4000;
    // A step and the look at the end take fewer than 200 calls: together they stay under 512.
    private static final int CALLS_BEFORE_LAST_STEP = 300;

    private final Random random;
    private final ChunkCode x = new ChunkCode();
    private final Model model = new Model();
    private final StringBuilder calls = new StringBuilder();
    private int spent = 0;

    private ModelTest(int seed) {
        random = new Random(seed);
    }

    public static void main(String[] args) {
        for (int seed = 1; seed <= RUNS; seed++) {
            new ModelTest(seed).run();
        }
        Check.end();
    }

    private void run() {
        while (spent < CALLS_BEFORE_LAST_STEP) {
            step();
        }
        lookAtAll();
    }

    private void step() {
        switch (random.nextInt(8)) {
            case 0: case 1: case 2:
                put();
                break;
            case 3:
                erase();
                break;
            case 4:
                sum();
                break;
            case 5:
                model.made = model.codeNow();
                due("encode()", x.encode(), model.made.length);
                break;
            case 6:
                feedAndDecode();
                break;
            default:
                lookAtCounts();
        }
    }

    private void put() {
        int k = random.nextInt(64);
        long v = someNumber();
        x.put(k, v);
        spent++;
        model.cells[k] = v;
        calls.append(" put(").append(k).append(", ").append(v).append(')');
    }

    private long someNumber() {
        switch (random.nextInt(4)) {
            case 0:
                return random.nextInt(3) - 1;
            case 1:
                return random.nextLong();
            case 2:
                return (1L << random.nextInt(64)) - random.nextInt(3) + 1;
            default:
                return -(1L << random.nextInt(64)) - random.nextInt(3) + 1;
        }
    }

    private void erase() {
        int a = random.nextInt(64);
        int b = Math.min(63, a + random.nextInt(12) - 3);
        if (b < 0) {
            return;
        }
        x.erase(a, b);
        spent++;
        for (int k = a; k <= b; k++) {
            model.cells[k] = null;
        }
        calls.append(" erase(").append(a).append(", ").append(b).append(')');
    }

    private void sum() {
        int a = random.nextInt(64);
        int b = random.nextInt(64);
        long want = 0;
        for (int k = a; k <= b; k++) {
            want += model.cells[k] == null ? 0 : model.cells[k];
        }
        due("sum(" + a + ", " + b + ")", x.sum(a, b), want);
    }

    private void feedAndDecode() {
        byte[] octets = someOctets();
        Check.feedOctets(x, octets);
        spent += (octets.length + 7) / 8;
        model.fed.writeBytes(octets);
        due("count(2)", x.count(2), model.fed.size());
        calls.append(" feed ").append(Check.hexOf(octets));
        if (random.nextInt(8) == 0 && model.fed.size() < 200) {
            return;
        }
        int want = model.decode();
        int got;
        try {
            got = x.decode();
        } catch (IllegalArgumentException e) {
            got = -1;
        }
        due("decode()", got, want);
        due("wrong()", x.wrong(), model.wrong);
    }

    /** A code of other cells, most often spoilt at one place, so that all but that is right. */
    private byte[] someOctets() {
        Long[] cells = new Long[64];
        int puts = random.nextInt(20);
        for (int i = 0; i < puts; i++) {
            cells[random.nextInt(64)] = someNumber();
        }
        byte[] octets = Model.codeOf(cells);
        int at = random.nextInt(octets.length);
        int behindMask = octets.length == 8 ? at : 8 + random.nextInt(octets.length - 8);
        switch (random.nextInt(7)) {
            case 0:
                return Arrays.copyOf(octets, at);
            case 1:
                return Arrays.copyOf(octets, octets.length + 1 + random.nextInt(3));
            case 2:
                octets[at] ^= 1 << random.nextInt(8);
                return octets;
            case 3:
                octets[behindMask] ^= 128;
                return octets;
            case 4:
                octets[behindMask] = (byte) random.nextInt(3);
                return octets;
            default:
                return octets;
        }
    }

    private void lookAtCounts() {
        due("count(0)", x.count(0), model.full());
        due("count(1)", x.count(1), model.runs());
        due("count(2)", x.count(2), model.fed.size());
        due("count(3)", x.count(3), model.made.length);
        due("count(4)", x.count(4), model.codeNow().length);
        due("wrong()", x.wrong(), model.wrong);
    }

    private void lookAtAll() {
        lookAtCounts();
        Check.due("code behind" + calls, Check.hexOfMade(x), Check.hexOf(model.made));
        for (int k = 0; k < 64; k++) {
            int cell = k;
            if (model.cells[k] == null) {
                Check.dueThrow("get(" + k + ")", UnsupportedOperationException.class, () -> x.get(cell));
            } else {
                due("get(" + k + ")", x.get(k), model.cells[k]);
            }
        }
    }

    private void due(String call, long got, long want) {
        spent++;
        if (got != want) {
            Check.due("behind" + calls + ": " + call, got, want);
        }
        calls.append(' ').append(call);
    }
}
