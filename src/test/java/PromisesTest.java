/** A part for each promise of the document: ordinary inputs, the edges it names, and wrong inputs. */
public final class PromisesTest {
    private static final Due DUE = new Due("PromisesTest");

    public static void main(String[] args) {
        newObject();
        feed();
        block();
        blockEdges();
        version();
        holds();
        root();
        sweep();
        pack();
        byteAt();
        crash();
        reopen();
        reopenEveryCut();
        poke();
        badAt();
        packByte();
        digest();
        out();
        drop();
        fullLog();
        crashedRefusesAll();
        DUE.end();
    }

    private static void newObject() {
        DUE.part("promise 1");
        int[][] packsAndLimits = {
            {Integer.MIN_VALUE, 1}, {-1, 1}, {0, 1}, {1, 1}, {2, 2}, {7, 7}, {8, 8}, {9, 8}, {Integer.MAX_VALUE, 8}};
        for (int[] row : packsAndLimits) {
            BoardStore s = new BoardStore(row[0]);
            for (int p = 0; p < row[1]; p++) {
                Stores.put(s, p);
                DUE.is("pack " + p + " of " + row[0], row[1] - p - 1, s::pack);
                if (s.version() < 0) {
                    DUE.same("version", "a number", "NONE");
                }
            }
            Stores.put(s, 99);
            DUE.is("a pack too many of " + row[0], -1, s::pack);
        }
        BoardStore s = new BoardStore(3);
        DUE.badIndex("holds(0, 0)", () -> s.holds(0, 0));
        DUE.badIndex("root(0)", () -> s.root(0));
        DUE.badIndex("out(0, 0)", () -> s.out(0, 0));
        DUE.badIndex("drop(0)", () -> s.drop(0));
        DUE.badIndex("byteAt(0, 0)", () -> s.byteAt(0, 0));
        DUE.badIndex("digest(0, 0)", () -> s.digest(0, 0));
        DUE.badIndex("packByte(0, 0)", () -> s.packByte(0, 0));
        DUE.badIndex("poke(0, 0, 1)", () -> s.poke(0, 0, 1));
        DUE.is("badAt()", -1, s::badAt);
        DUE.is("pack()", -1, s::pack);
        DUE.badState("reopen()", s::reopen);
        DUE.badArgument("crash(1)", () -> s.crash(1));
        DUE.is("crash(0)", false, () -> s.crash(0));
    }

    private static void feed() {
        DUE.part("promise 2");
        BoardStore s = new BoardStore(1);
        for (int b : new int[] {-1, 256, Integer.MIN_VALUE, Integer.MAX_VALUE}) {
            DUE.is("feed(" + b + ")", false, () -> s.feed(b));
        }
        DUE.is("feed(0)", true, () -> s.feed(0));
        DUE.is("feed(255)", true, () -> s.feed(255));
        for (int i = 2; i < 24; i++) {
            int b = i;
            DUE.is("feed " + i, true, () -> s.feed(b));
        }
        DUE.is("a 25th byte", false, () -> s.feed(7));
        DUE.is("a 25th that is none", false, () -> s.feed(-1));
        DUE.is("block()", 0, s::block);
        DUE.is("byte 0", 0, () -> s.byteAt(0, 0));
        DUE.is("byte 1", 255, () -> s.byteAt(0, 1));
        DUE.is("byte 23", 23, () -> s.byteAt(0, 23));
        DUE.is("byte 24", -1, () -> s.byteAt(0, 24));
        DUE.is("feed again", true, () -> s.feed(7));
    }

    private static void block() {
        DUE.part("promise 3");
        BoardStore s = new BoardStore(1);
        DUE.is("an empty block", 0, s::block);
        DUE.is("an empty block again", 0, s::block);
        DUE.is("a new one", 1, () -> Stores.put(s, 1, 2));
        DUE.is("the same bytes", 1, () -> Stores.put(s, 1, 2));
        DUE.is("its beginning alone", 2, () -> Stores.put(s, 1));
        DUE.is("longer", 3, () -> Stores.put(s, 1, 2, 3));
        DUE.is("another order", 4, () -> Stores.put(s, 2, 1));
        DUE.is("what was fed is none again", 0, s::block);
        DUE.is("a ninth of the version", -1, () -> Stores.put(s, 9));
        DUE.is("a ninth that is old", -1, s::block);
        DUE.is("version()", 0, s::version);
        DUE.is("what was fed stayed", 5, s::block);
        DUE.is("byteAt(5, 0)", 9, () -> s.byteAt(5, 0));
        DUE.is("byteAt(5, 1)", -1, () -> s.byteAt(5, 1));
        DUE.is("drop(0)", true, () -> s.drop(0));
        DUE.is("dropped but there", 1, () -> Stores.put(s, 1, 2));
        DUE.is("sweep()", 4, s::sweep);
        DUE.is("a swept one gets a new number", 6, () -> Stores.put(s, 2, 1));
        DUE.is("a swept empty one, too", 7, s::block);
        DUE.is("one that the open version kept", 1, () -> Stores.put(s, 1, 2));
    }

    private static void blockEdges() {
        DUE.part("promise 3, edges");
        BoardStore s = new BoardStore(1);
        for (int n = 0; n < 24; n++) {
            int b = n;
            DUE.is("block " + n, n, () -> Stores.put(s, b));
            if (n % 8 == 7) {
                DUE.is("version " + n / 8, n / 8, s::version);
            }
        }
        DUE.is("a 25th block", -1, () -> Stores.put(s, 24));
        DUE.is("what was fed stays", -1, s::block);
        DUE.is("feed goes on behind it", -1, () -> Stores.put(s, 25));
        DUE.badIndex("no block had the number 24", () -> s.byteAt(24, 0));
        DUE.is("drop(0)", true, () -> s.drop(0));
        DUE.is("sweep()", 8, s::sweep);
        DUE.is("a number is not used again", -1, s::block);
        // 24 blocks of 3 bytes, 3 versions, a drop and a sweep.
        DUE.badArgument("the log has 78 bytes", () -> s.crash(79));
        DUE.is("crash(78)", false, () -> s.crash(78));
        DUE.is("reopen()", 3, s::reopen);
        DUE.is("what was fed is gone; an empty 25th", -1, s::block);
        DUE.is("an old one when there are 24", 23, () -> Stores.put(s, 23));
    }

    private static void version() {
        DUE.part("promise 4");
        BoardStore s = new BoardStore(1);
        Stores.put(s, 5);
        for (int v = 0; v < 12; v++) {
            DUE.is("version " + v, v, s::version);
        }
        DUE.is("a 13th", -1, s::version);
        DUE.badIndex("the open one has no number", () -> s.root(12));
        DUE.is("the first has the block", true, () -> s.holds(0, 0));
        DUE.is("the second is empty", false, () -> s.holds(1, 0));
        DUE.is("blocks of the open one still come", 1, () -> Stores.put(s, 6));
        DUE.is("drop(0)", true, () -> s.drop(0));
        DUE.is("a dropped one counts", -1, s::version);
        DUE.is("sweep() leaves the open one's", 1, s::sweep);
        DUE.is("byteAt(1, 0)", 6, () -> s.byteAt(1, 0));
        for (int n = 0; n < 7; n++) {
            DUE.is("old one " + n, 1, () -> Stores.put(s, 6));
        }
        DUE.is("a ninth", -1, () -> Stores.put(s, 6));
    }

    private static void holds() {
        DUE.part("promise 5");
        BoardStore s = new BoardStore(1);
        Stores.put(s, 1);
        Stores.put(s, 2);
        s.version();
        Stores.put(s, 2);
        Stores.put(s, 3);
        s.version();
        Stores.put(s, 4);
        boolean[][] want = {{true, true, false, false}, {false, true, true, false}};
        for (int v = 0; v < 2; v++) {
            for (int b = 0; b < 4; b++) {
                int version = v;
                int block = b;
                DUE.is("holds(" + v + ", " + b + ")", want[v][b], () -> s.holds(version, block));
            }
        }
        for (int bad : new int[] {-1, 2, 12, 13, Integer.MAX_VALUE, Integer.MIN_VALUE}) {
            DUE.badIndex("version " + bad, () -> s.holds(bad, 0));
        }
        for (int bad : new int[] {-1, 4, 24, Integer.MAX_VALUE, Integer.MIN_VALUE}) {
            DUE.badIndex("block " + bad, () -> s.holds(0, bad));
        }
        s.drop(0);
        DUE.is("a dropped one", false, () -> s.holds(0, 0));
        DUE.is("the other has it", true, () -> s.holds(1, 1));
        DUE.badIndex("a dropped one, no such block", () -> s.holds(0, 4));
        DUE.is("sweep()", 1, s::sweep);
        DUE.is("a swept block had its number", false, () -> s.holds(1, 0));
    }

    private static void root() {
        DUE.part("promise 6");
        BoardStore s = new BoardStore(1);
        Stores.put(s, 65, 66);
        Stores.put(s, 65, 66);
        Stores.put(s, 67);
        s.version();
        s.version();
        Stores.put(s);
        Stores.put(s, 255, 0, 128);
        s.version();
        Stores.put(s, 67);
        Stores.put(s, 65, 66);
        s.version();
        DUE.is("root(0)", 294496611, () -> s.root(0));
        DUE.is("root(0), anew", (int) Stores.sum(65, 66, 65, 66, 67), () -> s.root(0));
        DUE.is("an empty one", 1, () -> s.root(1));
        DUE.is("root(2)", (int) Stores.sum(255, 0, 128), () -> s.root(2));
        DUE.is("another order", (int) Stores.sum(67, 65, 66), () -> s.root(3));
        for (int bad : new int[] {-1, 4, 12, Integer.MAX_VALUE, Integer.MIN_VALUE}) {
            DUE.badIndex("root(" + bad + ")", () -> s.root(bad));
        }
        s.drop(0);
        DUE.is("a dropped one", 1, () -> s.root(0));
        s.sweep();
        DUE.is("the others stay", (int) Stores.sum(67, 65, 66), () -> s.root(3));
    }

    private static void sweep() {
        DUE.part("promise 7");
        BoardStore s = new BoardStore(2);
        DUE.is("of nothing", 0, s::sweep);
        Stores.put(s, 1);
        Stores.put(s, 2);
        s.version();
        Stores.put(s, 2);
        DUE.is("all are held", 0, s::sweep);
        s.drop(0);
        DUE.is("byteAt(0, 0) ahead", 1, () -> s.byteAt(0, 0));
        DUE.is("one is not", 1, s::sweep);
        DUE.is("byteAt(0, 0)", -1, () -> s.byteAt(0, 0));
        DUE.is("byteAt(1, 0): the open version has it", 2, () -> s.byteAt(1, 0));
        DUE.is("it does not go twice", 0, s::sweep);
        s.version();
        DUE.is("a closed version has it", 0, s::sweep);
        DUE.is("pack()", 1, s::pack);
        s.drop(1);
        DUE.is("a block in a pack goes, too", 1, s::sweep);
        DUE.is("the pack stays", 2, () -> s.packByte(0, 3));
        // 3 + 3 + 1 + 2 + 1 bytes of blocks and versions, 2 drops of 2, 6 sweeps (of none, too).
        DUE.badArgument("each sweep is an act", () -> s.crash(21));
        DUE.is("crash(20)", false, () -> s.crash(20));
    }

    private static void pack() {
        DUE.part("promise 8");
        BoardStore s = new BoardStore(3);
        DUE.is("no blocks", -1, s::pack);
        s.feed(8);
        DUE.is("fed bytes are no block", -1, s::pack);
        DUE.is("block()", 0, s::block);
        DUE.is("a block of the open version", 2, s::pack);
        DUE.is("all are in a pack", -1, s::pack);
        s.version();
        Stores.put(s, 1);
        s.drop(0);
        s.sweep();
        Stores.put(s, 2);
        DUE.is("two more", 1, s::pack);
        DUE.is("how many", 2, () -> s.packByte(1, 0));
        DUE.is("a number", 1, () -> s.packByte(1, 1));
        DUE.is("the next number", 2, () -> s.packByte(1, 4));
        Stores.put(s, 3);
        s.version();
        s.drop(1);
        s.sweep();
        DUE.is("swept ones are not packed", -1, s::pack);
        Stores.put(s, 4);
        DUE.is("the last", 0, s::pack);
        DUE.is("only the one that is there", 1, () -> s.packByte(2, 0));
        DUE.is("its number", 4, () -> s.packByte(2, 1));
        Stores.put(s, 5);
        DUE.is("none may be", -1, s::pack);
        DUE.badIndex("no fourth pack", () -> s.packByte(3, 0));
    }

    private static void byteAt() {
        DUE.part("promise 9");
        BoardStore s = new BoardStore(1);
        Stores.put(s, 10, 0, 255);
        Stores.put(s);
        DUE.is("byteAt(0, 0)", 10, () -> s.byteAt(0, 0));
        DUE.is("byteAt(0, 1)", 0, () -> s.byteAt(0, 1));
        DUE.is("byteAt(0, 2)", 255, () -> s.byteAt(0, 2));
        DUE.is("behind it", -1, () -> s.byteAt(0, 3));
        DUE.is("far behind it", -1, () -> s.byteAt(0, Integer.MAX_VALUE));
        DUE.is("an empty one", -1, () -> s.byteAt(1, 0));
        DUE.badIndex("i below 0", () -> s.byteAt(0, -1));
        DUE.badIndex("i far below 0", () -> s.byteAt(0, Integer.MIN_VALUE));
        for (int bad : new int[] {-1, 2, 24, Integer.MAX_VALUE, Integer.MIN_VALUE}) {
            DUE.badIndex("block " + bad, () -> s.byteAt(bad, 0));
        }
        s.version();
        s.drop(0);
        DUE.is("there until the sweep", 10, () -> s.byteAt(0, 0));
        s.sweep();
        DUE.is("not there", -1, () -> s.byteAt(0, 0));
        DUE.badIndex("not there, i below 0", () -> s.byteAt(0, -1));
        s.feed(1);
        DUE.badIndex("what is fed has no number", () -> s.byteAt(2, 0));
    }

    private static void crash() {
        DUE.part("promise 10");
        BoardStore s = new BoardStore(1);
        Stores.put(s, 1);
        for (int bad : new int[] {-1, 4, 400, Integer.MAX_VALUE, Integer.MIN_VALUE}) {
            DUE.badArgument("crash(" + bad + ")", () -> s.crash(bad));
        }
        DUE.is("a refused crash is none", true, () -> s.feed(2));
        DUE.is("all is kept", false, () -> s.crash(3));
        DUE.badState("ahead of the wrong argument", () -> s.crash(-1));
        DUE.badState("it crashed already", () -> s.crash(3));
        DUE.is("reopen()", 0, s::reopen);
        DUE.is("the block came back", 1, () -> s.byteAt(0, 0));
        DUE.is("less is kept", true, () -> s.crash(2));
        DUE.is("reopen()", 0, s::reopen);
        DUE.badIndex("the block is gone", () -> s.byteAt(0, 0));
        DUE.badArgument("the rest was cut off", () -> s.crash(1));
        DUE.is("crash(0) of an empty log", false, () -> s.crash(0));
    }

    private static BoardStore story() {
        BoardStore s = new BoardStore(2);
        Stores.put(s, 1, 2);
        Stores.put(s, 3);
        s.version();
        Stores.put(s, 3);
        Stores.put(s);
        s.version();
        s.drop(0);
        s.sweep();
        Stores.put(s, 4);
        s.pack();
        s.feed(9);
        return s;
    }

    private static void reopen() {
        DUE.part("promise 11");
        BoardStore s = story();
        DUE.badState("it did not crash", s::reopen);
        s.crash(19);
        DUE.is("versions, a dropped one too", 2, s::reopen);
        DUE.badState("it is open again", s::reopen);
        DUE.badIndex("packs are none", () -> s.packByte(0, 0));
        DUE.is("badAt()", -1, s::badAt);
        DUE.is("swept", -1, () -> s.byteAt(0, 0));
        DUE.is("not swept", 3, () -> s.byteAt(1, 0));
        DUE.is("root(0)", 1, () -> s.root(0));
        DUE.is("drop(0)", false, () -> s.drop(0));
        DUE.is("root(1)", (int) Stores.sum(3), () -> s.root(1));
        DUE.is("holds(1, 2)", true, () -> s.holds(1, 2));
        DUE.is("an empty one was fed", 2, s::block);
        DUE.is("all may be packed again", 1, s::pack);
        DUE.is("three of them", 3, () -> s.packByte(0, 0));
        DUE.is("the numbers go on", 4, () -> Stores.put(s, 1, 2));
        DUE.is("version()", 2, s::version);
        DUE.is("the open one came back", true, () -> s.holds(2, 3));
        s.crash(0);
        DUE.is("from nothing", 0, s::reopen);
        DUE.is("numbers from the beginning", 0, () -> Stores.put(s, 77));
        DUE.is("version numbers, too", 0, s::version);
        DUE.is("packs, too", 1, s::pack);
    }

    /** The log of story() is 19 bytes; its records end behind these, and so many versions are closed there. */
    private static void reopenEveryCut() {
        DUE.part("promise 11, cuts");
        int[] ends = {0, 4, 7, 8, 10, 12, 13, 15, 16, 19};
        for (int kept = 0; kept <= 19; kept++) {
            BoardStore s = story();
            int cut = kept;
            DUE.is("crash(" + kept + ")", kept < 19, () -> s.crash(cut));
            DUE.is("reopen() behind " + kept, kept >= 13 ? 2 : kept >= 8 ? 1 : 0, s::reopen);
            int whole = 0;
            for (int end : ends) {
                whole = end <= kept ? end : whole;
            }
            int left = whole;
            DUE.badArgument("no more is left than " + left, () -> s.crash(left + 1));
            DUE.is("crash(" + left + ")", false, () -> s.crash(left));
            DUE.is("reopen() again", kept >= 13 ? 2 : kept >= 8 ? 1 : 0, s::reopen);
            if (kept >= 8) {
                DUE.is("dropped behind " + kept, kept < 15, () -> s.drop(0));
            }
            if (kept >= 4) {
                DUE.is("swept behind " + kept, kept >= 16 ? -1 : 2, () -> s.byteAt(0, 1));
            }
        }
    }

    private static void poke() {
        DUE.part("promise 12");
        BoardStore s = new BoardStore(2);
        Stores.put(s, 1, 2);
        s.pack();
        DUE.is("poke(0, 3, 255)", true, () -> s.poke(0, 3, 255));
        DUE.is("it is altered", 254, () -> s.packByte(0, 3));
        DUE.is("the block is not", 1, () -> s.byteAt(0, 0));
        DUE.is("badAt()", 0, s::badAt);
        DUE.is("mask 0", false, () -> s.poke(0, 3, 0));
        DUE.is("mask 256", false, () -> s.poke(0, 3, 256));
        DUE.is("still the same", 254, () -> s.packByte(0, 3));
        DUE.is("mask 257", true, () -> s.poke(0, 3, 257));
        DUE.is("its lowest bit alone", 255, () -> s.packByte(0, 3));
        DUE.is("mask -1", true, () -> s.poke(0, 3, -1));
        DUE.is("all 8 bits", 0, () -> s.packByte(0, 3));
        DUE.is("mask MIN_VALUE", false, () -> s.poke(0, 3, Integer.MIN_VALUE));
        DUE.is("the count", true, () -> s.poke(0, 0, 4));
        DUE.is("the last byte", true, () -> s.poke(0, 8, 1));
        for (int bad : new int[] {-1, 9, Integer.MAX_VALUE, Integer.MIN_VALUE}) {
            DUE.badIndex("byte " + bad, () -> s.poke(0, bad, 1));
        }
        for (int bad : new int[] {-1, 1, 8, Integer.MAX_VALUE, Integer.MIN_VALUE}) {
            DUE.badIndex("pack " + bad, () -> s.poke(bad, 0, 1));
        }
        DUE.is("a poked pack still has its block", -1, s::pack);
    }

    private static void badAt() {
        DUE.part("promise 13");
        BoardStore s = new BoardStore(3);
        DUE.is("no packs", -1, s::badAt);
        for (int p = 0; p < 3; p++) {
            Stores.put(s, p, 7);
            s.pack();
        }
        DUE.is("all are good", -1, s::badAt);
        for (int i = 0; i < 9; i++) {
            int at = i;
            for (int bit = 1; bit < 256; bit *= 2) {
                int mask = bit;
                s = packsOfTwo();
                BoardStore t = s;
                t.poke(1, at, mask);
                DUE.is("byte " + i + " of the second, mask " + bit, 1, t::badAt);
                t.poke(0, at, mask);
                DUE.is("and of the first", 0, t::badAt);
                t.poke(0, at, mask);
                DUE.is("the first is mended", 1, t::badAt);
                t.poke(1, at, mask);
                DUE.is("both are", -1, t::badAt);
            }
        }
    }

    private static BoardStore packsOfTwo() {
        BoardStore s = new BoardStore(2);
        Stores.put(s, 3, 4);
        s.pack();
        Stores.put(s, 5, 6);
        s.pack();
        return s;
    }

    private static void packByte() {
        DUE.part("promise 14");
        BoardStore s = new BoardStore(2);
        Stores.put(s, 200, 0);
        Stores.put(s);
        s.pack();
        Stores.put(s, 9);
        s.pack();
        Stores.packIs(DUE, s, 0, 2, 0, 2, 200, 0, 1, 0);
        Stores.packIs(DUE, s, 1, 1, 2, 1, 9);
        for (int bad : new int[] {-1, 2, 8, Integer.MAX_VALUE, Integer.MIN_VALUE}) {
            DUE.badIndex("pack " + bad, () -> s.packByte(bad, 0));
        }
        largePack();
    }

    /** 24 blocks of 14 bytes; 364 calls make the pack, so that one object has 148 left of its 512 to read it. */
    private static void largePack() {
        int[] want = new int[1 + 24 * 2 + 24 * 14];
        for (int first = 0; first < want.length + 4; first += 148) {
            BoardStore s = new BoardStore(1);
            feed24Blocks(s, want);
            DUE.is("pack()", 0, s::pack);
            Stores.partOfPackIs(DUE, s, 0, first, first + 148, want);
        }
    }

    private static void feed24Blocks(BoardStore s, int[] want) {
        want[0] = 24;
        int at = 1;
        for (int n = 0; n < 24; n++) {
            want[at++] = n;
            want[at++] = 14;
            for (int i = 0; i < 14; i++) {
                s.feed((n * 11 + i) % 256);
                want[at++] = (n * 11 + i) % 256;
            }
            s.block();
            if (n % 8 == 7) {
                s.version();
            }
        }
    }

    private static void digest() {
        DUE.part("promise 15");
        BoardStore s = new BoardStore(1);
        Stores.put(s, 65, 66);
        Stores.put(s);
        Stores.put(s, 255, 254, 0);
        digestIs(s, 0, Stores.sum(65, 66));
        digestIs(s, 1, 1);
        digestIs(s, 2, Stores.sum(255, 254, 0));
        DUE.is("digest(0, 0)", 221, () -> s.digest(0, 0));
        DUE.is("digest(0, 3)", 101, () -> s.digest(0, 3));
        for (int bad : new int[] {-1, 4, Integer.MAX_VALUE, Integer.MIN_VALUE}) {
            DUE.badIndex("byte " + bad, () -> s.digest(0, bad));
        }
        for (int bad : new int[] {-1, 3, 24, Integer.MAX_VALUE, Integer.MIN_VALUE}) {
            DUE.badIndex("block " + bad, () -> s.digest(bad, 0));
        }
        s.version();
        s.drop(0);
        digestIs(s, 0, Stores.sum(65, 66));
        s.sweep();
        DUE.is("not there", -1, () -> s.digest(0, 0));
        DUE.badIndex("not there, a wrong byte", () -> s.digest(0, 4));
    }

    private static void digestIs(BoardStore s, int block, long sum) {
        for (int i = 0; i < 4; i++) {
            int at = i;
            DUE.is("digest(" + block + ", " + i + ")", (sum >> (8 * (3 - i))) % 256, () -> s.digest(block, at));
        }
    }

    private static void out() {
        DUE.part("promise 16");
        BoardStore s = new BoardStore(1);
        Stores.put(s);
        Stores.put(s, 1, 2);
        Stores.put(s);
        Stores.put(s, 3);
        Stores.put(s, 1, 2);
        s.version();
        s.version();
        int[] want = {1, 2, 3, 1, 2, -1};
        for (int i = 0; i < want.length; i++) {
            int at = i;
            DUE.is("out(0, " + i + ")", want[i], () -> s.out(0, at));
        }
        DUE.is("far behind", -1, () -> s.out(0, Integer.MAX_VALUE));
        DUE.is("an empty one", -1, () -> s.out(1, 0));
        DUE.badIndex("i below 0", () -> s.out(0, -1));
        DUE.badIndex("i below 0 of an empty one", () -> s.out(1, Integer.MIN_VALUE));
        for (int bad : new int[] {-1, 2, 12, Integer.MAX_VALUE, Integer.MIN_VALUE}) {
            DUE.badIndex("version " + bad, () -> s.out(bad, 0));
        }
        s.drop(0);
        DUE.is("a dropped one", -1, () -> s.out(0, 0));
        DUE.badIndex("a dropped one, i below 0", () -> s.out(0, -1));
    }

    private static void drop() {
        DUE.part("promise 17");
        BoardStore s = new BoardStore(1);
        Stores.put(s, 1);
        DUE.badIndex("the open one", () -> s.drop(0));
        s.version();
        Stores.put(s, 1);
        s.version();
        for (int bad : new int[] {-1, 2, 12, Integer.MAX_VALUE, Integer.MIN_VALUE}) {
            DUE.badIndex("drop(" + bad + ")", () -> s.drop(bad));
        }
        DUE.is("drop(0)", true, () -> s.drop(0));
        DUE.is("already", false, () -> s.drop(0));
        DUE.is("the other stays", 1, () -> s.out(1, 0));
        DUE.is("its number is not used again", 2, s::version);
        DUE.is("an empty one", true, () -> s.drop(2));
        DUE.is("already, too", false, () -> s.drop(2));
        // 3 + 1 + 2 + 1 + 1 bytes of blocks and versions, and two drops of 2.
        DUE.badArgument("a drop not done is no act", () -> s.crash(13));
        DUE.is("crash(12)", false, () -> s.crash(12));
    }

    private static void fullLog() {
        DUE.part("a full log");
        BoardStore s = Stores.withLog(Stores.MOST_LOG);
        DUE.is("a sweep", 0, s::sweep);
        DUE.is("a version", -1, s::version);
        DUE.is("a drop", false, () -> s.drop(0));
        DUE.is("the version is not dropped", 0, () -> s.out(0, 0));
        DUE.badIndex("no such version, even so", () -> s.drop(1));
        DUE.is("an old block", -1, s::block);
        DUE.is("a new block", -1, () -> Stores.put(s, 55));
        DUE.is("a pack is no act", 0, s::pack);
        DUE.is("feed is none either", true, () -> s.feed(1));
        DUE.badArgument("at most 400", () -> s.crash(401));
        DUE.is("crash(400)", false, () -> s.crash(400));
        DUE.is("reopen()", 1, s::reopen);
        DUE.is("it is still full", -1, s::version);

        BoardStore swept = Stores.withLog(399);
        DUE.is("room for one byte: no drop", false, () -> swept.drop(0));
        DUE.is("no old block", -1, swept::block);
        DUE.is("no new block", -1, () -> Stores.put(swept, 9));
        DUE.is("but a version", 1, swept::version);
        DUE.is("and no more", -1, swept::version);

        BoardStore dropped = Stores.withLog(398);
        DUE.is("room for two: no block of one byte", -1, () -> Stores.put(dropped, 9));
        DUE.is("but a drop", true, () -> dropped.drop(0));
        DUE.is("the sweep is not done", 0, dropped::sweep);
        DUE.is("its blocks are still there", 0, () -> dropped.byteAt(0, 0));

        BoardStore old = Stores.withLog(398);
        DUE.is("room for two: an old block", 1, old::block);
        DUE.is("no more room", 0, old::sweep);
        DUE.badArgument("400 bytes", () -> old.crash(401));

        BoardStore last = Stores.withLog(397);
        DUE.is("room for three: no block of two bytes", -1, () -> Stores.put(last, 9, 8));
        DUE.is("what was fed stays", -1, last::block);
        BoardStore fits = Stores.withLog(397);
        DUE.is("a block of one byte", 5, () -> Stores.put(fits, 9));
        DUE.is("crash(400)", false, () -> fits.crash(400));

        BoardStore one = Stores.withLog(399);
        one.crash(399);
        one.reopen();
        DUE.is("a sweep fits", 0, one::sweep);
        DUE.is("crash(399)", true, () -> one.crash(399));
    }

    private static void crashedRefusesAll() {
        DUE.part("promises 2 to 17, crashed");
        BoardStore s = story();
        s.crash(10);
        for (int k : new int[] {0, -1, 999}) {
            DUE.badState("feed", () -> s.feed(k));
            DUE.badState("block", s::block);
            DUE.badState("version", s::version);
            DUE.badState("holds", () -> s.holds(k, k));
            DUE.badState("root", () -> s.root(k));
            DUE.badState("sweep", s::sweep);
            DUE.badState("pack", s::pack);
            DUE.badState("byteAt", () -> s.byteAt(k, k));
            DUE.badState("crash", () -> s.crash(k));
            DUE.badState("poke", () -> s.poke(k, k, 1));
            DUE.badState("badAt", s::badAt);
            DUE.badState("packByte", () -> s.packByte(k, k));
            DUE.badState("digest", () -> s.digest(k, k));
            DUE.badState("out", () -> s.out(k, k));
            DUE.badState("drop", () -> s.drop(k));
        }
        DUE.is("the refused calls did nothing", 1, s::reopen);
        DUE.badArgument("the log is as it was kept", () -> s.crash(11));
        DUE.is("crash(10)", false, () -> s.crash(10));
    }
}
