/** The sentences of promises 1 to 4: a new object, feed, block, version. */
final class Sentences1To4 {
    private Sentences1To4() {
    }

    @Sentence(of = "Promise 1", words = "Nothing is there")
    static void promise1_nothingIsThere(Due due) {
        BoardStore s = new BoardStore(8);
        due.badIndex("no block", () -> s.byteAt(0, 0));
        due.badIndex("no block's sum", () -> s.digest(0, 0));
        due.badIndex("no version", () -> s.root(0));
        due.badIndex("no version's byte", () -> s.out(0, 0));
        due.badIndex("no pack", () -> s.packByte(0, 0));
        due.is("no bad pack", -1, s::badAt);
        due.is("nothing to be packed", -1, s::pack);
        due.is("nothing to be swept", 0, s::sweep);
        due.badState("it did not crash", s::reopen);
        due.is("nothing is fed: the first block is empty", 0, s::block);
        due.is("its byte 0", -1, () -> s.byteAt(0, 0));
    }

    @Sentence(of = "Promise 1", words = "Nothing is there")
    static void promise1_theLogIsEmpty(Due due) {
        BoardStore s = new BoardStore(8);
        Stores.logIs(due, s, 0);
        due.is("reopen()", 0, s::reopen);
    }

    @Sentence(of = "Promise 1", words = "Nothing is there")
    static void promise1_anotherObjectsBlocksAreNotThere(Due due) {
        BoardStore other = Stores.withAllBlocks(1);
        other.pack();
        BoardStore s = new BoardStore(1);
        due.badIndex("no block", () -> s.byteAt(0, 0));
        due.is("the first number", 0, () -> Stores.put(s, 200));
        due.is("the other's block", 0, () -> other.byteAt(0, 0));
    }

    @Sentence(of = "Promise 1", words = "so many PACKS may be")
    static void promise1_soManyPacksMayBe(Due due) {
        for (int packs = 1; packs <= 8; packs++) {
            mostPacksAre(due, packs, packs);
        }
    }

    @Sentence(of = "Promise 1", words = "(held to 1 .. 8)")
    static void promise1_tooFewPacksAreHeldTo1(Due due) {
        for (int packs : new int[] {0, -1, -8, Integer.MIN_VALUE}) {
            mostPacksAre(due, packs, 1);
        }
    }

    @Sentence(of = "Promise 1", words = "(held to 1 .. 8)")
    static void promise1_tooManyPacksAreHeldTo8(Due due) {
        for (int packs : new int[] {9, 10, 256, Integer.MAX_VALUE}) {
            mostPacksAre(due, packs, 8);
        }
    }

    private static void mostPacksAre(Due due, int asked, int most) {
        BoardStore s = new BoardStore(asked);
        for (int p = 0; p < most; p++) {
            Stores.put(s, p);
            due.is("pack " + p + " of " + asked, most - p - 1, s::pack);
        }
        s.version();
        Stores.put(s, 99);
        due.is("a pack more than " + asked, -1, s::pack);
    }

    @Sentence(of = "Promise 2", words = "One more byte is FED: true")
    static void promise2_theLeastAndTheLargestByte(Due due) {
        BoardStore s = new BoardStore(1);
        due.is("feed(0)", true, () -> s.feed(0));
        due.is("feed(255)", true, () -> s.feed(255));
        s.block();
        due.is("the first", 0, () -> s.byteAt(0, 0));
        due.is("the second", 255, () -> s.byteAt(0, 1));
        due.is("no third", -1, () -> s.byteAt(0, 2));
    }

    @Sentence(of = "Promise 2", words = "One more byte is FED: true")
    static void promise2_the24thByteIsFed(Due due) {
        BoardStore s = new BoardStore(1);
        for (int n = 1; n <= 24; n++) {
            int b = n;
            due.is("byte " + n, true, () -> s.feed(b));
        }
        s.block();
        due.is("the last", 24, () -> s.byteAt(0, 23));
    }

    @Sentence(of = "Promise 2", words = "One more byte is FED: true")
    static void promise2_feedAsksForNoRoomInTheLogNorInTheVersion(Due due) {
        BoardStore full = Stores.withLog(Stores.MOST_LOG);
        due.is("the log is full", true, () -> full.feed(1));
        BoardStore s = new BoardStore(1);
        for (int n = 0; n < 8; n++) {
            s.block();
        }
        due.is("the version has 8", true, () -> s.feed(1));
    }

    @Sentence(of = "Promise 2", words = "false, when it is none")
    static void promise2_whatIsNoByteIsNotFed(Due due) {
        BoardStore s = new BoardStore(1);
        s.feed(7);
        for (int none : new int[] {-1, 256, 257, -255, -256, Integer.MIN_VALUE, Integer.MAX_VALUE}) {
            due.is("feed(" + none + ")", false, () -> s.feed(none));
        }
        s.block();
        due.is("the byte ahead of them", 7, () -> s.byteAt(0, 0));
        due.is("none of them", -1, () -> s.byteAt(0, 1));
    }

    @Sentence(of = "Promise 2", words = "or 24 are")
    static void promise2_a25thByteIsNotFed(Due due) {
        BoardStore s = new BoardStore(1);
        Stores.feedMany(s, 3, 24);
        due.is("a 25th", false, () -> s.feed(4));
        due.is("a 25th that is none", false, () -> s.feed(-1));
        due.is("once more", false, () -> s.feed(3));
        s.block();
        due.is("the 24th is as it was", 3, () -> s.byteAt(0, 23));
        due.is("no 25th", -1, () -> s.byteAt(0, 24));
        due.is("behind block() there is room again", true, () -> s.feed(4));
    }

    @Sentence(of = "Promise 2", words = "or 24 are")
    static void promise2_a25thByteIsNotFedBehindARefusedBlock(Due due) {
        BoardStore s = new BoardStore(1);
        for (int n = 0; n < 8; n++) {
            s.block();
        }
        Stores.feedMany(s, 3, 24);
        due.is("block()", -1, s::block);
        due.is("24 are still fed", false, () -> s.feed(4));
    }

    @Sentence(of = "Promise 2", words = "IllegalStateException, when it crashed.")
    static void promise2_refusedWhenItCrashed(Due due) {
        BoardStore s = Stores.crashed();
        for (int b : new int[] {0, 255, 256, -1}) {
            due.badState("feed(" + b + ")", () -> s.feed(b));
        }
        s.reopen();
        due.is("behind reopen()", true, () -> s.feed(0));
    }

    @Sentence(of = "Promise 3", words = "What was FED (none again then)")
    static void promise3_nothingIsFedBehindANewBlock(Due due) {
        BoardStore s = new BoardStore(1);
        Stores.put(s, 1, 2);
        due.is("an empty block", 1, s::block);
        due.is("its byte 0", -1, () -> s.byteAt(1, 0));
        due.is("24 bytes are block 2", 2, () -> Stores.putMany(s, 5, 24));
        due.is("its last byte", 5, () -> s.byteAt(2, 23));
    }

    @Sentence(of = "Promise 3", words = "What was FED (none again then)")
    static void promise3_nothingIsFedBehindAnOldBlock(Due due) {
        BoardStore s = new BoardStore(1);
        Stores.put(s, 1, 2);
        due.is("the same again", 0, () -> Stores.put(s, 1, 2));
        due.is("and again", 0, () -> Stores.put(s, 1, 2));
        due.is("an empty block", 1, s::block);
    }

    @Sentence(of = "Promise 3", words = "becomes the next BLOCK of the open VERSION")
    static void promise3_blocksStandInTheVersionAsTheyCame(Due due) {
        BoardStore s = new BoardStore(1);
        Stores.put(s, 5);
        Stores.put(s, 6);
        Stores.put(s, 5);
        s.version();
        int[] want = {5, 6, 5, -1};
        for (int i = 0; i < want.length; i++) {
            int at = i;
            due.is("out(0, " + i + ")", want[i], () -> s.out(0, at));
        }
    }

    @Sentence(of = "Promise 3",
            words = "its number, that of the one that has the same bytes and is THERE, if there is one")
    static void promise3_theSameBytesHaveTheSameNumber(Due due) {
        BoardStore s = new BoardStore(1);
        due.is("an empty one", 0, s::block);
        due.is("another", 1, () -> Stores.put(s, 4, 5));
        due.is("in the open version", 1, () -> Stores.put(s, 4, 5));
        due.is("the empty one, too", 0, s::block);
        s.version();
        due.is("in a closed version", 1, () -> Stores.put(s, 4, 5));
        s.version();
        s.drop(0);
        s.drop(1);
        due.is("in a dropped version, not swept yet", 1, () -> Stores.put(s, 4, 5));
    }

    @Sentence(of = "Promise 3",
            words = "its number, that of the one that has the same bytes and is THERE, if there is one")
    static void promise3_otherBytesHaveAnotherNumber(Due due) {
        BoardStore s = new BoardStore(1);
        due.is("a block", 0, () -> Stores.put(s, 4, 5));
        due.is("its beginning", 1, () -> Stores.put(s, 4));
        due.is("its end", 2, () -> Stores.put(s, 5));
        due.is("a byte more", 3, () -> Stores.put(s, 4, 5, 0));
        due.is("the other order", 4, () -> Stores.put(s, 5, 4));
        due.is("the last byte is another", 5, () -> Stores.put(s, 4, 6));
        due.is("the first byte is another", 6, () -> Stores.put(s, 3, 5));
        due.is("none", 7, s::block);
    }

    @Sentence(of = "Promise 3",
            words = "its number, that of the one that has the same bytes and is THERE, if there is one")
    static void promise3_anEqualSumDoesNotMakeABlockTheSame(Due due) {
        BoardStore s = new BoardStore(1);
        due.same("their sums", Long.toString(Stores.sum(3, 61, 36, 228)), Long.toString(Stores.sum(20, 0, 68, 0)));
        due.is("a block", 0, () -> Stores.put(s, 3, 61, 36, 228));
        due.is("other bytes, the same sum", 1, () -> Stores.put(s, 20, 0, 68, 0));
        due.is("the sum 0", 2, () -> Stores.put(s, 1));
        due.is("a byte more, the sum 0 again", 3, () -> Stores.put(s, 1, 0));
    }

    @Sentence(of = "Promise 3",
            words = "its number, that of the one that has the same bytes and is THERE, if there is one")
    static void promise3_aSweptBlocksBytesHaveANewNumber(Due due) {
        BoardStore s = new BoardStore(1);
        Stores.put(s, 1);
        Stores.put(s);
        s.version();
        s.drop(0);
        s.sweep();
        due.is("the same bytes", 2, () -> Stores.put(s, 1));
        due.is("the empty one", 3, s::block);
        due.is("the new one again", 2, () -> Stores.put(s, 1));
    }

    @Sentence(of = "Promise 3", words = "NONE, when that VERSION has 8")
    static void promise3_noneWhenTheVersionHas8(Due due) {
        BoardStore s = new BoardStore(1);
        for (int n = 0; n < 7; n++) {
            Stores.put(s, n);
        }
        due.is("the eighth", 7, () -> Stores.put(s, 7));
        due.is("a ninth that is new", -1, () -> Stores.put(s, 8));
        due.badIndex("it has no number", () -> s.byteAt(8, 0));
        s.version();
        due.is("behind version() it goes on", 8, s::block);
    }

    @Sentence(of = "Promise 3", words = "NONE, when that VERSION has 8")
    static void promise3_noneForAnOldBlockWhenTheVersionHas8(Due due) {
        BoardStore s = new BoardStore(1);
        for (int n = 0; n < 8; n++) {
            due.is("time " + n, 0, s::block);
        }
        due.is("a ninth that is old", -1, s::block);
        s.version();
        due.is("behind version() it goes on", 0, s::block);
    }

    @Sentence(of = "Promise 3", words = "it is a 25th one")
    static void promise3_noneForA25thBlock(Due due) {
        BoardStore s = Stores.withAllBlocks(1);
        due.is("the 24th is there", 23, () -> s.byteAt(23, 0));
        due.is("a 25th", -1, () -> Stores.put(s, 24));
        due.badIndex("it has no number", () -> s.byteAt(24, 0));
        s.version();
        due.is("the version that was open is empty", -1, () -> s.out(3, 0));
    }

    @Sentence(of = "Promise 3", words = "it is a 25th one")
    static void promise3_anOldBlockIsNo25th(Due due) {
        BoardStore s = Stores.withAllBlocks(1);
        due.is("the first again", 0, () -> Stores.put(s, 0));
        due.is("the 24th again", 23, () -> Stores.put(s, 23));
    }

    @Sentence(of = "Promise 3", words = "it is a 25th one")
    static void promise3_sweptBlocksCountAmongThe24(Due due) {
        BoardStore s = Stores.withAllBlocks(1);
        s.drop(0);
        s.drop(1);
        s.drop(2);
        due.is("all are swept", 24, s::sweep);
        due.is("a 25th", -1, () -> Stores.put(s, 0));
    }

    @Sentence(of = "Promise 3", words = "or for the LOG")
    static void promise3_noneForTheLogOfANewBlock(Due due) {
        for (int n = 0; n <= 24; n++) {
            int length = n;
            // The empty block is an old one there, so a block of one byte is the shortest that is new.
            BoardStore fits = Stores.withLog(Stores.MOST_LOG - 2 - length);
            due.is("just room for " + length, length == 0 ? 1 : 5, () -> Stores.putMany(fits, 9, length));
            BoardStore s = Stores.withLog(Stores.MOST_LOG - 1 - length);
            due.is("a byte too little for " + length, -1, () -> Stores.putMany(s, 9, length));
        }
    }

    @Sentence(of = "Promise 3", words = "or for the LOG")
    static void promise3_noneForTheLogOfANewEmptyBlock(Due due) {
        BoardStore fits = fullButFor(2);
        due.is("just room", 1, fits::block);
        BoardStore s = fullButFor(1);
        due.is("a byte too little", -1, s::block);
    }

    /** One block, and sweeps; the empty block is new there. */
    private static BoardStore fullButFor(int bytes) {
        BoardStore s = new BoardStore(1);
        Stores.putMany(s, 1, 24);
        for (int n = 26; n < Stores.MOST_LOG - bytes; n++) {
            s.sweep();
        }
        return s;
    }

    @Sentence(of = "Promise 3", words = "or for the LOG")
    static void promise3_noneForTheLogOfAnOldBlock(Due due) {
        BoardStore fits = Stores.withLog(398);
        due.is("just room", 2, () -> Stores.putMany(fits, 100, 24));
        BoardStore s = Stores.withLog(399);
        due.is("a byte too little", -1, () -> Stores.putMany(s, 100, 24));
    }

    @Sentence(of = "Promise 3", words = "(what was FED stays then)")
    static void promise3_whatWasFedStaysWhenTheVersionHas8(Due due) {
        BoardStore s = new BoardStore(1);
        for (int n = 0; n < 8; n++) {
            s.block();
        }
        due.is("block()", -1, () -> Stores.put(s, 4, 5));
        s.version();
        s.feed(6);
        due.is("behind version()", 1, s::block);
        int[] want = {4, 5, 6, -1};
        for (int i = 0; i < want.length; i++) {
            int at = i;
            due.is("byte " + i, want[i], () -> s.byteAt(1, at));
        }
    }

    @Sentence(of = "Promise 3", words = "(what was FED stays then)")
    static void promise3_whatWasFedStaysWhenItIsA25thBlock(Due due) {
        BoardStore s = new BoardStore(1);
        Stores.put(s, 200, 201);
        for (int n = 1; n < 24; n++) {
            Stores.put(s, n);
            if (n % 8 == 7) {
                s.version();
            }
        }
        due.is("a 25th", -1, () -> Stores.put(s, 200));
        s.feed(201);
        due.is("what was fed and a byte more are an old one", 0, s::block);
    }

    @Sentence(of = "Promise 3", words = "(what was FED stays then)")
    static void promise3_whatWasFedStaysForTheLog(Due due) {
        BoardStore s = Stores.withLog(398);
        due.is("23 bytes", -1, () -> Stores.putMany(s, 100, 23));
        s.feed(100);
        due.is("a byte more makes it an old one", 2, s::block);
    }

    @Sentence(of = "Promise 3", words = "IllegalStateException likewise.")
    static void promise3_refusedWhenItCrashed(Due due) {
        BoardStore s = Stores.crashed();
        due.badState("block()", s::block);
        s.reopen();
        due.is("behind reopen()", 0, () -> Stores.put(s, 5));
    }

    @Sentence(of = "Promise 4", words = "The open VERSION is closed")
    static void promise4_theOpenVersionIsClosed(Due due) {
        BoardStore s = new BoardStore(1);
        Stores.put(s, 8);
        due.badIndex("ahead of it", () -> s.holds(0, 0));
        due.is("version()", 0, s::version);
        due.is("it has its block", true, () -> s.holds(0, 0));
        Stores.put(s, 9);
        due.is("it takes no more", false, () -> s.holds(0, 1));
    }

    @Sentence(of = "Promise 4", words = "The open VERSION is closed")
    static void promise4_whatIsFedGoesIntoTheNextVersion(Due due) {
        BoardStore s = new BoardStore(1);
        s.feed(8);
        s.version();
        due.is("the closed one is empty", -1, () -> s.out(0, 0));
        due.is("what was fed is still fed", 0, s::block);
        s.version();
        due.is("it is in the next", 8, () -> s.out(1, 0));
    }

    @Sentence(of = "Promise 4", words = "an empty one is open")
    static void promise4_anEmptyOneIsOpen(Due due) {
        BoardStore s = new BoardStore(1);
        for (int n = 0; n < 8; n++) {
            s.block();
        }
        s.version();
        due.is("it can be closed at once", 1, s::version);
        due.is("it is empty", false, () -> s.holds(1, 0));
        for (int n = 0; n < 8; n++) {
            due.is("the next takes 8 again, " + n, 0, s::block);
        }
        due.is("and no ninth", -1, s::block);
    }

    @Sentence(of = "Promise 4", words = "its number")
    static void promise4_theNumberIsThatOfTheClosedOne(Due due) {
        BoardStore s = new BoardStore(1);
        Stores.put(s, 1);
        due.is("the first", 0, s::version);
        Stores.put(s, 2);
        due.is("the second", 1, s::version);
        due.is("block 0 is in the first", true, () -> s.holds(0, 0));
        due.is("block 1 is in the second", true, () -> s.holds(1, 1));
        due.badIndex("the open one has no number", () -> s.holds(2, 0));
    }

    @Sentence(of = "Promise 4", words = "NONE, when there are 12")
    static void promise4_noneWhenThereAre12(Due due) {
        BoardStore s = new BoardStore(1);
        for (int v = 0; v < 11; v++) {
            s.version();
        }
        due.is("the 12th", 11, s::version);
        due.is("a 13th", -1, s::version);
        due.is("again", -1, s::version);
        Stores.logIs(due, s, 12);
    }

    @Sentence(of = "Promise 4", words = "NONE, when there are 12")
    static void promise4_droppedOnesCountAmongThe12(Due due) {
        BoardStore s = new BoardStore(1);
        for (int v = 0; v < 12; v++) {
            s.version();
        }
        s.drop(0);
        s.drop(11);
        due.is("a 13th", -1, s::version);
    }

    @Sentence(of = "Promise 4", words = "NONE, when there are 12")
    static void promise4_theOpenOneStaysWhenThereAre12(Due due) {
        BoardStore s = new BoardStore(1);
        for (int v = 0; v < 12; v++) {
            s.version();
        }
        Stores.put(s, 1);
        due.is("version()", -1, s::version);
        due.is("the open one still has its block", 0, s::sweep);
        due.is("the block is there", 1, () -> s.byteAt(0, 0));
        for (int n = 1; n < 8; n++) {
            due.is("it takes block " + n, 0, () -> Stores.put(s, 1));
        }
        due.is("but no ninth", -1, () -> Stores.put(s, 1));
    }

    @Sentence(of = "Promise 4", words = "or for the LOG")
    static void promise4_noneForTheLog(Due due) {
        BoardStore fits = Stores.withLog(399);
        due.is("just room", 1, fits::version);
        BoardStore s = Stores.withLog(400);
        due.is("no room", -1, s::version);
        due.badIndex("it is not closed", () -> s.root(1));
    }

    @Sentence(of = "Promise 4", words = "or for the LOG")
    static void promise4_theOpenOneStaysForTheLog(Due due) {
        BoardStore s = Stores.withLog(400);
        s.version();
        s.crash(400);
        s.reopen();
        due.is("the log had no room for it", -1, s::version);
        due.is("crash to the records of its blocks", true, () -> s.crash(84));
        s.reopen();
        due.is("version()", 1, s::version);
        due.is("it has the blocks of the one that was open", true, () -> s.holds(1, 4));
    }

    @Sentence(of = "Promise 4", words = "IllegalStateException likewise.")
    static void promise4_refusedWhenItCrashed(Due due) {
        BoardStore s = Stores.crashed();
        due.badState("version()", s::version);
        s.reopen();
        due.is("behind reopen()", 1, s::version);
    }
}
