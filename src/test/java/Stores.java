/** What several tests do with a store. */
final class Stores {
    static final int MOST_LOG = 400;
    /** Far outside of every range, besides -1. */
    static final int[] FAR_OUT = {-1, -2, Integer.MIN_VALUE, Integer.MAX_VALUE, 1 << 16};

    private Stores() {
    }

    /** Feeds the bytes and makes a block of them; the block's number. */
    static int put(BoardStore s, int... bytes) {
        for (int b : bytes) {
            s.feed(b);
        }
        return s.block();
    }

    static void feedMany(BoardStore s, int b, int times) {
        for (int i = 0; i < times; i++) {
            s.feed(b);
        }
    }

    /** Makes a block of so many equal bytes; the block's number. */
    static int putMany(BoardStore s, int b, int times) {
        feedMany(s, b, times);
        return s.block();
    }

    /** The document's sum in long arithmetic, unlike the class's own. */
    static long sum(int... bytes) {
        long s = 1;
        for (int b : bytes) {
            long x = s ^ b;
            long turned = (x >> 1) + (x % 2) * 0x80000000L;
            s = (turned * 0xC2B2AE35L) & 0xFFFFFFFFL;
        }
        return s;
    }

    /** Byte i of a sum, the highest 8 bits first. */
    static int byteOfSum(long sum, int i) {
        return (int) ((sum >> (8 * (3 - i))) % 256);
    }

    /**
     * A store whose log has so many bytes (84 or more), with one closed version that has block 0, of byte 0, and
     * block 1, which is empty; the open version has blocks 2 to 4, of 24 bytes 100, 101 and 102.
     */
    static BoardStore withLog(int bytes) {
        BoardStore s = new BoardStore(1);
        put(s, 0);
        put(s);
        s.version();
        int used = 6;
        for (int n = 0; n < 3; n++) {
            putMany(s, 100 + n, 24);
            used += 26;
        }
        while (used < bytes) {
            s.sweep();
            used++;
        }
        return s;
    }

    /** A store with 24 blocks, block n of the byte n, in the closed versions 0 to 2; its log has 75 bytes. */
    static BoardStore withAllBlocks(int packs) {
        BoardStore s = new BoardStore(packs);
        for (int n = 0; n < 24; n++) {
            put(s, n);
            if (n % 8 == 7) {
                s.version();
            }
        }
        return s;
    }

    /** Asks for the log's length and crashes the store by it: the last call of a store, or a reopen() comes next. */
    static void logIs(Due due, BoardStore s, int bytes) {
        due.badArgument("crash(" + (bytes + 1) + ") of a log of " + bytes, () -> s.crash(bytes + 1));
        due.is("crash(" + bytes + ") of a log of " + bytes, false, () -> s.crash(bytes));
    }

    /** Compares all bytes of a pack; as many calls as it has bytes and four more. */
    static void packIs(Due due, BoardStore s, int pack, int... ahead) {
        partOfPackIs(due, s, pack, 0, ahead.length + 4, ahead);
        for (int bad : new int[] {-1, ahead.length + 4, Integer.MAX_VALUE, Integer.MIN_VALUE}) {
            due.badIndex("byte " + bad + " of pack " + pack, () -> s.packByte(pack, bad));
        }
    }

    /** Compares some bytes of a pack: those from the first up to, not with, the end. */
    static void partOfPackIs(Due due, BoardStore s, int pack, int first, int end, int[] ahead) {
        long sum = sum(ahead);
        for (int i = first; i < Math.min(end, ahead.length + 4); i++) {
            int at = i;
            int want = i < ahead.length ? ahead[i] : byteOfSum(sum, i - ahead.length);
            due.is("packByte(" + pack + ", " + i + ")", want, () -> s.packByte(pack, at));
        }
    }

    /** A store that had a version with block 0, of byte 5, and a pack, and crashed with all of its log. */
    static BoardStore crashed() {
        BoardStore s = new BoardStore(2);
        put(s, 5);
        s.version();
        s.pack();
        s.crash(4);
        return s;
    }

    /** One of the calls, by its place in the document, with the numbers that it takes. */
    static Object call(BoardStore s, int kind, int a, int b) {
        switch (kind) {
            case 0: return s.feed(b);
            case 1: return s.block();
            case 2: return s.version();
            case 3: return s.holds(a, b);
            case 4: return s.root(a);
            case 5: return s.sweep();
            case 6: return s.pack();
            case 7: return s.byteAt(a, b);
            case 8: return s.crash(b);
            case 9: return s.reopen();
            case 10: return s.poke(a, b, b);
            case 11: return s.badAt();
            case 12: return s.packByte(a, b);
            case 13: return s.digest(a, b);
            case 14: return s.out(a, b);
            default: return s.drop(a);
        }
    }
}
