/** The sentences of promises 15 to 17: digest, out, drop. */
final class Sentences15To17 {
    private Sentences15To17() {
    }

    @Sentence(of = "Promise 15", words = "Byte i (0 .. 3, the highest 8 bits first) of a BLOCK's SUM")
    static void promise15_theFourBytesOfASum(Due due) {
        BoardStore s = new BoardStore(1);
        Stores.put(s, 3);
        // 1 exclusive or 3 is 2, turned 1: the sum is the factor itself.
        int[] want = {0xC2, 0xB2, 0xAE, 0x35};
        for (int i = 0; i < 4; i++) {
            int at = i;
            due.is("digest(0, " + i + ")", want[i], () -> s.digest(0, at));
        }
    }

    @Sentence(of = "Promise 15", words = "Byte i (0 .. 3, the highest 8 bits first) of a BLOCK's SUM")
    static void promise15_ofNoBytesAndOf24(Due due) {
        BoardStore s = new BoardStore(1);
        s.block();
        int[] bytes = new int[24];
        for (int i = 0; i < 24; i++) {
            bytes[i] = 232 + i;
            s.feed(bytes[i]);
        }
        s.block();
        for (int i = 0; i < 4; i++) {
            int at = i;
            due.is("digest(0, " + i + ")", i == 3 ? 1 : 0, () -> s.digest(0, at));
            due.is("digest(1, " + i + ")", Stores.byteOfSum(Stores.sum(bytes), i), () -> s.digest(1, at));
        }
    }

    @Sentence(of = "Promise 15", words = "Byte i (0 .. 3, the highest 8 bits first) of a BLOCK's SUM")
    static void promise15_ofTheLastBlock(Due due) {
        BoardStore s = Stores.withAllBlocks(1);
        s.drop(2);
        for (int i = 0; i < 4; i++) {
            int at = i;
            due.is("digest(23, " + i + ")", Stores.byteOfSum(Stores.sum(23), i), () -> s.digest(23, at));
        }
    }

    @Sentence(of = "Promise 15", words = "NONE when it is not THERE")
    static void promise15_noneWhenItIsNotThere(Due due) {
        BoardStore s = new BoardStore(1);
        Stores.put(s, 3);
        s.version();
        s.drop(0);
        due.is("there until the sweep", 0xC2, () -> s.digest(0, 0));
        s.sweep();
        for (int i = 0; i < 4; i++) {
            int at = i;
            due.is("digest(0, " + i + ")", -1, () -> s.digest(0, at));
        }
    }

    @Sentence(of = "Promise 15", words = "IndexOutOfBoundsException, when no BLOCK had that number")
    static void promise15_noBlockHadThatNumber(Due due) {
        BoardStore s = new BoardStore(1);
        Stores.put(s, 3);
        s.feed(4);
        for (int bad : new int[] {1, 2, 23, 24, 25}) {
            due.badIndex("digest(" + bad + ", 0)", () -> s.digest(bad, 0));
        }
        for (int bad : Stores.FAR_OUT) {
            due.badIndex("digest(" + bad + ", 0)", () -> s.digest(bad, 0));
        }
        BoardStore all = Stores.withAllBlocks(1);
        due.badIndex("digest(24, 0)", () -> all.digest(24, 0));
    }

    @Sentence(of = "Promise 15", words = "or i is not so")
    static void promise15_iIsNot0To3(Due due) {
        BoardStore s = new BoardStore(1);
        Stores.putMany(s, 3, 24);
        due.badIndex("digest(0, 4)", () -> s.digest(0, 4));
        due.badIndex("digest(0, 23)", () -> s.digest(0, 23));
        for (int bad : Stores.FAR_OUT) {
            due.badIndex("digest(0, " + bad + ")", () -> s.digest(0, bad));
        }
        s.version();
        s.drop(0);
        s.sweep();
        due.badIndex("of one that is not there, too", () -> s.digest(0, 4));
        due.badIndex("and below 0", () -> s.digest(0, -1));
    }

    @Sentence(of = "Promise 15", words = "IllegalStateException, ahead of it.")
    static void promise15_refusedWhenItCrashedAheadOfAWrongIndex(Due due) {
        BoardStore s = Stores.crashed();
        due.badState("digest(0, 0)", () -> s.digest(0, 0));
        due.badState("digest(24, 0)", () -> s.digest(24, 0));
        due.badState("digest(0, 4)", () -> s.digest(0, 4));
        s.reopen();
        due.is("behind reopen()", Stores.byteOfSum(Stores.sum(5), 3), () -> s.digest(0, 3));
    }

    @Sentence(of = "Promise 16", words = "Byte i of all bytes of a VERSION, BLOCK by BLOCK")
    static void promise16_blockByBlockWithEmptyOnesBetween(Due due) {
        BoardStore s = new BoardStore(1);
        Stores.put(s);
        Stores.put(s, 1, 2);
        Stores.put(s);
        Stores.put(s, 0);
        Stores.put(s, 1, 2);
        Stores.put(s, 255);
        Stores.put(s);
        s.version();
        outIs(due, s, 0, 1, 2, 0, 1, 2, 255);
    }

    @Sentence(of = "Promise 16", words = "Byte i of all bytes of a VERSION, BLOCK by BLOCK")
    static void promise16_theLargestVersion(Due due) {
        BoardStore s = new BoardStore(1);
        int[] bytes = new int[8 * 24];
        for (int i = 0; i < bytes.length; i++) {
            bytes[i] = 255 - i;
            s.feed(bytes[i]);
            if (i % 24 == 23) {
                s.block();
            }
        }
        s.version();
        outIs(due, s, 0, bytes);
    }

    @Sentence(of = "Promise 16", words = "Byte i of all bytes of a VERSION, BLOCK by BLOCK")
    static void promise16_theLastVersion(Due due) {
        BoardStore s = new BoardStore(1);
        for (int v = 0; v < 12; v++) {
            Stores.put(s, 2 * v);
            s.version();
        }
        outIs(due, s, 11, 22);
        outIs(due, s, 0, 0);
    }

    private static void outIs(Due due, BoardStore s, int version, int... want) {
        for (int i = 0; i < want.length; i++) {
            int at = i;
            due.is("out(" + version + ", " + i + ")", want[i], () -> s.out(version, at));
        }
        due.is("out(" + version + ", " + want.length + ")", -1, () -> s.out(version, want.length));
    }

    @Sentence(of = "Promise 16", words = "NONE behind them")
    static void promise16_noneBehindThem(Due due) {
        BoardStore s = new BoardStore(1);
        Stores.put(s, 7);
        Stores.put(s, 8);
        s.version();
        Stores.put(s, 9);
        s.version();
        for (int i : new int[] {2, 3, 24, 192, 1000, Integer.MAX_VALUE}) {
            due.is("out(0, " + i + ")", -1, () -> s.out(0, i));
        }
    }

    @Sentence(of = "Promise 16", words = "NONE behind them")
    static void promise16_noneOfAVersionWithoutBytes(Due due) {
        BoardStore s = new BoardStore(1);
        s.version();
        s.block();
        s.version();
        Stores.put(s, 7);
        s.version();
        s.drop(2);
        due.is("of no block", -1, () -> s.out(0, 0));
        due.is("of an empty block", -1, () -> s.out(1, 0));
        due.is("of a dropped one", -1, () -> s.out(2, 0));
        due.is("far behind", -1, () -> s.out(2, Integer.MAX_VALUE));
    }

    @Sentence(of = "Promise 16", words = "IndexOutOfBoundsException, when there is no such VERSION")
    static void promise16_noSuchVersion(Due due) {
        BoardStore s = new BoardStore(1);
        s.version();
        Stores.put(s, 7);
        for (int bad : new int[] {1, 2, 11, 12, 13}) {
            due.badIndex("out(" + bad + ", 0)", () -> s.out(bad, 0));
        }
        for (int bad : Stores.FAR_OUT) {
            due.badIndex("out(" + bad + ", 0)", () -> s.out(bad, 0));
        }
        for (int v = 1; v < 12; v++) {
            s.version();
        }
        due.is("version 11", -1, () -> s.out(11, 0));
        due.badIndex("version 12", () -> s.out(12, 0));
    }

    @Sentence(of = "Promise 16", words = "or i is below 0")
    static void promise16_iIsBelow0(Due due) {
        BoardStore s = new BoardStore(1);
        Stores.put(s, 7);
        s.version();
        Stores.put(s, 8);
        s.version();
        s.version();
        for (int bad : new int[] {-1, -2, Integer.MIN_VALUE}) {
            due.badIndex("out(1, " + bad + ")", () -> s.out(1, bad));
        }
        due.badIndex("of an empty one, too", () -> s.out(2, -1));
        s.drop(0);
        due.badIndex("of a dropped one, too", () -> s.out(0, -1));
    }

    @Sentence(of = "Promise 16", words = "IllegalStateException, ahead of it.")
    static void promise16_refusedWhenItCrashedAheadOfAWrongIndex(Due due) {
        BoardStore s = Stores.crashed();
        due.badState("out(0, 0)", () -> s.out(0, 0));
        due.badState("out(12, 0)", () -> s.out(12, 0));
        due.badState("out(0, -1)", () -> s.out(0, -1));
        s.reopen();
        due.is("behind reopen()", 5, () -> s.out(0, 0));
    }

    @Sentence(of = "Promise 17", words = "A VERSION is dropped")
    static void promise17_oneVersionIsDroppedAndNoOther(Due due) {
        BoardStore s = new BoardStore(1);
        for (int v = 0; v < 12; v++) {
            Stores.put(s, v);
            s.version();
        }
        due.is("the first", true, () -> s.drop(0));
        due.is("the last", true, () -> s.drop(11));
        for (int v = 0; v < 12; v++) {
            int version = v;
            due.is("version " + v, v == 0 || v == 11 ? -1 : v, () -> s.out(version, 0));
        }
        Stores.logIs(due, s, 12 * 4 + 2 * 2);
    }

    @Sentence(of = "Promise 17", words = "it has no BLOCKS then: true")
    static void promise17_itHasNoBlocksThen(Due due) {
        BoardStore s = new BoardStore(1);
        for (int n = 0; n < 8; n++) {
            Stores.put(s, n);
        }
        s.version();
        due.is("drop(0)", true, () -> s.drop(0));
        for (int n = 0; n < 8; n++) {
            int block = n;
            due.is("holds(0, " + n + ")", false, () -> s.holds(0, block));
        }
        due.is("root(0)", 1, () -> s.root(0));
        due.is("out(0, 0)", -1, () -> s.out(0, 0));
        due.is("its blocks are there until a sweep", 7, () -> s.byteAt(7, 0));
        due.is("sweep()", 8, s::sweep);
    }

    @Sentence(of = "Promise 17", words = "it has no BLOCKS then: true")
    static void promise17_anEmptyVersionIsDroppedToo(Due due) {
        BoardStore s = new BoardStore(1);
        s.version();
        due.is("drop(0)", true, () -> s.drop(0));
        Stores.logIs(due, s, 3);
    }

    @Sentence(of = "Promise 17", words = "false, when it is already")
    static void promise17_falseWhenItIsAlready(Due due) {
        BoardStore s = new BoardStore(1);
        Stores.put(s, 1);
        s.version();
        s.drop(0);
        due.is("again", false, () -> s.drop(0));
        due.is("and again", false, () -> s.drop(0));
        Stores.logIs(due, s, 3 + 1 + 2);
        s.reopen();
        due.is("behind reopen()", false, () -> s.drop(0));
    }

    @Sentence(of = "Promise 17", words = "or for the LOG")
    static void promise17_falseForTheLog(Due due) {
        BoardStore fits = Stores.withLog(398);
        due.is("just room", true, () -> fits.drop(0));
        Stores.logIs(due, fits, 400);
        BoardStore s = Stores.withLog(399);
        due.is("a byte too little", false, () -> s.drop(0));
        due.is("it still has its block", true, () -> s.holds(0, 0));
        Stores.logIs(due, s, 399);
        BoardStore full = Stores.withLog(400);
        due.is("no room", false, () -> full.drop(0));
        due.is("it still has its byte", 0, () -> full.out(0, 0));
    }

    @Sentence(of = "Promise 17", words = "IndexOutOfBoundsException, when there is no such VERSION")
    static void promise17_noSuchVersion(Due due) {
        BoardStore s = new BoardStore(1);
        due.badIndex("the open one of a new object", () -> s.drop(0));
        s.version();
        Stores.put(s, 1);
        for (int bad : new int[] {1, 2, 11, 12, 13}) {
            due.badIndex("drop(" + bad + ")", () -> s.drop(bad));
        }
        for (int bad : Stores.FAR_OUT) {
            due.badIndex("drop(" + bad + ")", () -> s.drop(bad));
        }
        Stores.logIs(due, s, 4);
        BoardStore full = Stores.withLog(400);
        due.badIndex("with a full log, too", () -> full.drop(1));
    }

    @Sentence(of = "Promise 17", words = "IndexOutOfBoundsException, when there is no such VERSION")
    static void promise17_theOpenVersionIsNotDroppedWhenThereAre12(Due due) {
        BoardStore s = new BoardStore(1);
        for (int v = 0; v < 12; v++) {
            s.version();
        }
        Stores.put(s, 1);
        due.badIndex("drop(12)", () -> s.drop(12));
        due.is("it still has its block", 0, s::sweep);
    }

    @Sentence(of = "Promise 17", words = "IllegalStateException, ahead of it.")
    static void promise17_refusedWhenItCrashedAheadOfAWrongIndex(Due due) {
        BoardStore s = Stores.crashed();
        due.badState("drop(0)", () -> s.drop(0));
        due.badState("drop(12)", () -> s.drop(12));
        due.badState("drop(-1)", () -> s.drop(-1));
        due.is("reopen()", 1, s::reopen);
        due.is("it was not dropped", true, () -> s.drop(0));
    }
}
