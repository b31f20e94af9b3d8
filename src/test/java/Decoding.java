/** What decode() makes of octets that are written as hex. */
final class Decoding {
    private Decoding() {
    }

    static void dueCells(String hex, int many, String cells) {
        // What was there before must be gone, so it starts with other cells.
        ChunkCode x = Check.chunk(0, 77, 40, 78, 63, 79);
        Check.feedHex(x, hex);
        Check.due("decode() of " + hex, x.decode(), many);
        Check.due("cells of " + hex, Check.cells(x), cells);
        Check.due("wrong() behind " + hex, x.wrong(), -1);
        Check.due("count(2) behind " + hex, x.count(2), 0);
        x.encode();
        Check.due("encoded again", Check.hexOfMade(x), hex.replace(" ", ""));
    }

    static void dueWrong(String hex, int at) {
        ChunkCode x = Check.chunk(0, 77, 40, 78, 63, 79);
        Check.feedHex(x, hex);
        Check.dueThrow("decode() of " + hex, IllegalArgumentException.class, x::decode);
        Check.due("wrong() of " + hex, x.wrong(), at);
        Check.due("count(2) behind " + hex, x.count(2), 0);
        Check.due("cells behind " + hex, Check.state(x),
            "0=77 40=78 63=79  count0=3 count1=3 count2=0 count3=0 count4=15 wrong=" + at + " code=");
    }

    /** Where a new object's decode() is wrong, or -1 if it answers. */
    static int wrongOf(String hex) {
        ChunkCode x = new ChunkCode();
        Check.feedHex(x, hex);
        try {
            x.decode();
        } catch (IllegalArgumentException e) {
            Check.due("wrong() is a place behind " + hex, x.wrong() >= 0 ? 1 : 0, 1);
            return x.wrong();
        }
        Check.due("wrong() behind " + hex, x.wrong(), -1);
        return -1;
    }

    static void dueStands(String hex) {
        Check.due("wrong() of " + hex, wrongOf(hex), -1);
    }

    static void dueWrongAt(int at, String hex) {
        Check.due("wrong() of " + hex, wrongOf(hex), at);
    }
}
