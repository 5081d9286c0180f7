/** The sentences of promises 5 to 8: holds, root, sweep, pack. */
final class Sentences5To8 {
    private Sentences5To8() {
    }

    /** Version 0 has blocks 0 and 1, version 1 has block 1, version 2 none, the open one block 2. */
    private static BoardStore threeVersions() {
        BoardStore s = new BoardStore(2);
        Stores.put(s, 10, 11);
        Stores.put(s, 12);
        s.version();
        Stores.put(s, 12);
        s.version();
        s.version();
        Stores.put(s, 13);
        return s;
    }

    @Sentence(of = "Promise 5", words = "Whether a VERSION has a BLOCK")
    static void promise5_whetherAVersionHasABlock(Due due) {
        BoardStore s = threeVersions();
        boolean[][] want = {{true, true, false}, {false, true, false}, {false, false, false}};
        for (int v = 0; v < 3; v++) {
            for (int b = 0; b < 3; b++) {
                int version = v;
                int block = b;
                due.is("holds(" + v + ", " + b + ")", want[v][b], () -> s.holds(version, block));
            }
        }
    }

    @Sentence(of = "Promise 5", words = "Whether a VERSION has a BLOCK")
    static void promise5_theFirstAndTheEighthBlockOfTheLastVersion(Due due) {
        BoardStore s = new BoardStore(1);
        for (int v = 0; v < 11; v++) {
            s.version();
        }
        for (int n = 0; n < 8; n++) {
            Stores.put(s, n);
        }
        s.version();
        due.is("holds(11, 0)", true, () -> s.holds(11, 0));
        due.is("holds(11, 7)", true, () -> s.holds(11, 7));
        due.is("holds(10, 7)", false, () -> s.holds(10, 7));
    }

    @Sentence(of = "Promise 5", words = "Whether a VERSION has a BLOCK")
    static void promise5_aSweptBlockIsInNone(Due due) {
        BoardStore s = threeVersions();
        s.drop(0);
        due.is("sweep()", 1, s::sweep);
        due.is("holds(1, 0)", false, () -> s.holds(1, 0));
        due.is("holds(0, 0)", false, () -> s.holds(0, 0));
    }

    @Sentence(of = "Promise 5", words = "(dropped ones have none)")
    static void promise5_droppedOnesHaveNone(Due due) {
        BoardStore s = threeVersions();
        s.drop(0);
        due.is("holds(0, 0)", false, () -> s.holds(0, 0));
        due.is("holds(0, 1)", false, () -> s.holds(0, 1));
        due.is("another one still has it", true, () -> s.holds(1, 1));
    }

    @Sentence(of = "Promise 5", words = "IndexOutOfBoundsException, when there is no such VERSION")
    static void promise5_noSuchVersion(Due due) {
        BoardStore s = threeVersions();
        due.is("the last one", false, () -> s.holds(2, 0));
        for (int bad : new int[] {3, 12, 13}) {
            due.badIndex("holds(" + bad + ", 0)", () -> s.holds(bad, 0));
        }
        for (int bad : Stores.FAR_OUT) {
            due.badIndex("holds(" + bad + ", 0)", () -> s.holds(bad, 0));
        }
    }

    @Sentence(of = "Promise 5", words = "IndexOutOfBoundsException, when there is no such VERSION")
    static void promise5_theOpenVersionHasNoNumberWhenThereAre12(Due due) {
        BoardStore s = new BoardStore(1);
        for (int v = 0; v < 12; v++) {
            s.version();
        }
        Stores.put(s, 1);
        due.is("the last", false, () -> s.holds(11, 0));
        due.badIndex("the open one", () -> s.holds(12, 0));
    }

    @Sentence(of = "Promise 5", words = "or no BLOCK had that number")
    static void promise5_noBlockHadThatNumber(Due due) {
        BoardStore s = threeVersions();
        due.is("the last one", false, () -> s.holds(0, 2));
        s.feed(99);
        for (int bad : new int[] {3, 24, 25}) {
            due.badIndex("holds(0, " + bad + ")", () -> s.holds(0, bad));
        }
        for (int bad : Stores.FAR_OUT) {
            due.badIndex("holds(0, " + bad + ")", () -> s.holds(0, bad));
        }
        s.drop(0);
        due.badIndex("of a dropped one, too", () -> s.holds(0, 3));
        s.sweep();
        due.is("a swept block had its number", false, () -> s.holds(0, 0));
    }

    @Sentence(of = "Promise 5", words = "or no BLOCK had that number")
    static void promise5_noBlockHasTheNumber24(Due due) {
        BoardStore s = Stores.withAllBlocks(1);
        due.is("the last", true, () -> s.holds(2, 23));
        due.badIndex("holds(2, 24)", () -> s.holds(2, 24));
    }

    @Sentence(of = "Promise 5", words = "IllegalStateException, ahead of it.")
    static void promise5_refusedWhenItCrashedAheadOfAWrongIndex(Due due) {
        BoardStore s = Stores.crashed();
        due.badState("holds(0, 0)", () -> s.holds(0, 0));
        due.badState("holds(-1, 0)", () -> s.holds(-1, 0));
        due.badState("holds(0, 24)", () -> s.holds(0, 24));
        s.reopen();
        due.is("behind reopen()", true, () -> s.holds(0, 0));
    }

    @Sentence(of = "Promise 6", words = "The SUM of all bytes of a VERSION, BLOCK by BLOCK")
    static void promise6_theSumOfAllBytesInOrder(Due due) {
        BoardStore s = threeVersions();
        due.is("root(0)", (int) Stores.sum(10, 11, 12), () -> s.root(0));
        due.is("root(1)", (int) Stores.sum(12), () -> s.root(1));
        Stores.put(s, 12);
        Stores.put(s, 10, 11);
        s.version();
        due.is("another order", (int) Stores.sum(13, 12, 10, 11), () -> s.root(3));
        Stores.put(s, 10);
        Stores.put(s, 11, 12);
        s.version();
        due.is("other blocks of the same bytes", (int) Stores.sum(10, 11, 12), () -> s.root(4));
    }

    @Sentence(of = "Promise 6", words = "The SUM of all bytes of a VERSION, BLOCK by BLOCK")
    static void promise6_noBytesSumTo1(Due due) {
        BoardStore s = threeVersions();
        due.is("a version of no block", 1, () -> s.root(2));
        BoardStore empty = new BoardStore(1);
        empty.block();
        empty.block();
        empty.version();
        due.is("a version of empty blocks", 1, () -> empty.root(0));
    }

    @Sentence(of = "Promise 6", words = "The SUM of all bytes of a VERSION, BLOCK by BLOCK")
    static void promise6_theLargestVersion(Due due) {
        BoardStore s = new BoardStore(1);
        int[] bytes = new int[8 * 24];
        for (int i = 0; i < bytes.length; i++) {
            bytes[i] = 255 - i;
            s.feed(bytes[i]);
            if (i % 24 == 23) {
                s.block();
            }
        }
        s.version();
        due.is("root(0)", (int) Stores.sum(bytes), () -> s.root(0));
    }

    @Sentence(of = "Promise 6", words = "(1 when it was dropped)")
    static void promise6_oneWhenItWasDropped(Due due) {
        BoardStore s = threeVersions();
        s.drop(0);
        due.is("root(0)", 1, () -> s.root(0));
        due.is("another one's", (int) Stores.sum(12), () -> s.root(1));
        s.sweep();
        due.is("behind a sweep", 1, () -> s.root(0));
    }

    @Sentence(of = "Promise 6", words = "Throws likewise.")
    static void promise6_noSuchVersion(Due due) {
        BoardStore s = threeVersions();
        for (int bad : new int[] {3, 12, 13}) {
            due.badIndex("root(" + bad + ")", () -> s.root(bad));
        }
        for (int bad : Stores.FAR_OUT) {
            due.badIndex("root(" + bad + ")", () -> s.root(bad));
        }
    }

    @Sentence(of = "Promise 6", words = "Throws likewise.")
    static void promise6_refusedWhenItCrashedAheadOfAWrongIndex(Due due) {
        BoardStore s = Stores.crashed();
        due.badState("root(0)", () -> s.root(0));
        due.badState("root(-1)", () -> s.root(-1));
        s.reopen();
        due.is("behind reopen()", (int) Stores.sum(5), () -> s.root(0));
    }

    @Sentence(of = "Promise 7", words = "BLOCKS that no VERSION has")
    static void promise7_blocksThatNoVersionHas(Due due) {
        BoardStore s = threeVersions();
        due.is("all are in one", 0, s::sweep);
        s.drop(0);
        due.is("block 0 is in none", 1, s::sweep);
        due.is("block 0", -1, () -> s.byteAt(0, 0));
        due.is("block 1 is in another", 12, () -> s.byteAt(1, 0));
        s.drop(1);
        due.is("block 1 is in none now", 1, s::sweep);
        due.is("block 1", -1, () -> s.byteAt(1, 0));
    }

    @Sentence(of = "Promise 7", words = "BLOCKS that no VERSION has")
    static void promise7_theEighthBlockOfTheLastVersionIsHeld(Due due) {
        BoardStore s = new BoardStore(1);
        for (int n = 0; n < 8; n++) {
            Stores.put(s, n);
        }
        for (int v = 0; v < 11; v++) {
            s.version();
        }
        for (int n = 0; n < 8; n++) {
            Stores.put(s, n);
        }
        due.is("version()", 11, s::version);
        s.drop(0);
        due.is("sweep()", 0, s::sweep);
        due.is("the eighth", 7, () -> s.byteAt(7, 0));
        s.drop(11);
        due.is("sweep() behind the last drop", 8, s::sweep);
    }

    @Sentence(of = "Promise 7", words = "the open one neither")
    static void promise7_theOpenVersionsBlocksStay(Due due) {
        BoardStore s = threeVersions();
        s.drop(0);
        s.drop(1);
        Stores.put(s, 12);
        due.is("blocks 1 and 2 are in the open one", 1, s::sweep);
        due.is("block 0", -1, () -> s.byteAt(0, 0));
        due.is("block 1", 12, () -> s.byteAt(1, 0));
        due.is("block 2", 13, () -> s.byteAt(2, 0));
    }

    @Sentence(of = "Promise 7", words = "the open one neither")
    static void promise7_theOpenVersionsBlocksStayWhenThereAre12(Due due) {
        BoardStore s = new BoardStore(1);
        for (int v = 0; v < 12; v++) {
            s.version();
        }
        for (int n = 0; n < 8; n++) {
            Stores.put(s, n);
        }
        due.is("sweep()", 0, s::sweep);
        due.is("its eighth block", 7, () -> s.byteAt(7, 0));
    }

    @Sentence(of = "Promise 7", words = "the open one neither")
    static void promise7_whatIsFedIsNotSwept(Due due) {
        BoardStore s = new BoardStore(1);
        s.feed(4);
        due.is("sweep()", 0, s::sweep);
        due.is("block()", 0, s::block);
        due.is("its byte", 4, () -> s.byteAt(0, 0));
    }

    @Sentence(of = "Promise 7", words = "are no more THERE")
    static void promise7_aSweptBlockIsNoMoreThere(Due due) {
        BoardStore s = threeVersions();
        s.drop(0);
        s.sweep();
        due.is("byteAt(0, 0)", -1, () -> s.byteAt(0, 0));
        due.is("digest(0, 0)", -1, () -> s.digest(0, 0));
        s.pack();
        due.is("a pack has the others", 2, () -> s.packByte(0, 0));
        due.is("the first of them", 1, () -> s.packByte(0, 1));
        due.is("its bytes come under a new number", 3, () -> Stores.put(s, 10, 11));
        due.is("it does not come back by that", -1, () -> s.byteAt(0, 0));
    }

    @Sentence(of = "Promise 7", words = "how many")
    static void promise7_howMany(Due due) {
        BoardStore s = Stores.withAllBlocks(1);
        s.drop(1);
        due.is("8 of 24", 8, s::sweep);
        due.is("none goes twice", 0, s::sweep);
        s.drop(0);
        s.drop(2);
        due.is("the other 16", 16, s::sweep);
        BoardStore all = Stores.withAllBlocks(1);
        all.drop(0);
        all.drop(1);
        all.drop(2);
        due.is("all 24 at once", 24, all::sweep);
        due.is("none in an empty store", 0, () -> new BoardStore(1).sweep());
    }

    @Sentence(of = "Promise 7", words = "how many")
    static void promise7_aBlockThatAVersionHasTwiceCountsOnce(Due due) {
        BoardStore s = new BoardStore(1);
        Stores.put(s, 1);
        Stores.put(s, 1);
        s.version();
        Stores.put(s, 1);
        s.version();
        s.drop(0);
        s.drop(1);
        due.is("sweep()", 1, s::sweep);
    }

    @Sentence(of = "Promise 7", words = "0 for the LOG")
    static void promise7_zeroAndNothingSweptForTheLog(Due due) {
        BoardStore s = Stores.withLog(398);
        s.drop(0);
        due.is("sweep() with a full log", 0, s::sweep);
        due.is("block 0 is there", 0, () -> s.byteAt(0, 0));
        due.is("the empty block, too", 1, () -> s.digest(1, 3));
        Stores.logIs(due, s, 400);
        BoardStore fits = Stores.withLog(397);
        fits.drop(0);
        due.is("with just room", 2, fits::sweep);
        due.is("block 0 is gone", -1, () -> fits.byteAt(0, 0));
    }

    @Sentence(of = "Promise 7", words = "(A sweep of none is an act, too.)")
    static void promise7_aSweepOfNoneIsAnAct(Due due) {
        BoardStore s = new BoardStore(1);
        for (int n = 0; n < Stores.MOST_LOG; n++) {
            due.is("sweep " + n, 0, s::sweep);
        }
        due.is("they filled the log", -1, s::version);
        Stores.logIs(due, s, Stores.MOST_LOG);
        due.is("reopen()", 0, s::reopen);
        Stores.logIs(due, s, Stores.MOST_LOG);
    }

    @Sentence(of = "Promise 7", words = "IllegalStateException likewise.")
    static void promise7_refusedWhenItCrashed(Due due) {
        BoardStore s = Stores.crashed();
        due.badState("sweep()", s::sweep);
        s.reopen();
        due.is("behind reopen()", 0, s::sweep);
    }

    @Sentence(of = "Promise 8", words = "BLOCKS that are THERE")
    static void promise8_onlyBlocksThatAreThere(Due due) {
        BoardStore s = threeVersions();
        s.drop(0);
        s.sweep();
        due.is("pack()", 1, s::pack);
        Stores.packIs(due, s, 0, 2, 1, 1, 12, 2, 1, 13);
    }

    @Sentence(of = "Promise 8", words = "BLOCKS that are THERE")
    static void promise8_blocksOfDroppedVersionsAreThereUntilASweep(Due due) {
        BoardStore s = threeVersions();
        s.drop(0);
        s.drop(1);
        due.is("pack()", 1, s::pack);
        Stores.packIs(due, s, 0, 3, 0, 2, 10, 11, 1, 1, 12, 2, 1, 13);
    }

    @Sentence(of = "Promise 8", words = "BLOCKS that are THERE")
    static void promise8_whatIsFedIsNotPacked(Due due) {
        BoardStore s = threeVersions();
        Stores.feedMany(s, 1, 3);
        s.pack();
        due.is("how many", 3, () -> s.packByte(0, 0));
        due.is("what was fed is still fed", 3, s::block);
        due.is("its last byte", 1, () -> s.byteAt(3, 2));
    }

    @Sentence(of = "Promise 8", words = "and in no PACK")
    static void promise8_aBlockIsInOnePackAlone(Due due) {
        BoardStore s = threeVersions();
        s.pack();
        Stores.put(s, 14);
        due.is("a second pack", 0, s::pack);
        Stores.packIs(due, s, 1, 1, 3, 1, 14);
    }

    @Sentence(of = "Promise 8", words = "and in no PACK")
    static void promise8_anOldBlockAgainIsStillInItsPack(Due due) {
        BoardStore s = threeVersions();
        s.pack();
        Stores.put(s, 12);
        due.is("pack()", -1, s::pack);
    }

    @Sentence(of = "Promise 8", words = "and in no PACK")
    static void promise8_anAlteredPackStillHasItsBlocks(Due due) {
        BoardStore s = threeVersions();
        s.pack();
        s.poke(0, 0, 255);
        s.poke(0, 1, 255);
        due.is("pack()", -1, s::pack);
    }

    @Sentence(of = "Promise 8", words = "become one")
    static void promise8_allOfThemBecomeOnePack(Due due) {
        BoardStore s = Stores.withAllBlocks(8);
        due.is("pack()", 7, s::pack);
        due.is("all 24", 24, () -> s.packByte(0, 0));
        due.badIndex("no second pack", () -> s.packByte(1, 0));
        BoardStore empty = new BoardStore(8);
        empty.block();
        due.is("one that is empty", 7, empty::pack);
        due.is("how many", 1, () -> empty.packByte(0, 0));
    }

    @Sentence(of = "Promise 8", words = "become one")
    static void promise8_theLargestPack(Due due) {
        int[] want = new int[1 + 24 * 2 + 350];
        // 377 calls make the store and the pack, so that one object has 135 left of its 512.
        for (int first = 0; first < want.length + 4; first += 135) {
            BoardStore s = largest(want);
            due.is("pack()", 0, s::pack);
            Stores.partOfPackIs(due, s, 0, first, first + 135, want);
        }
        BoardStore s = largest(want);
        s.pack();
        due.badIndex("behind its last byte", () -> s.packByte(0, want.length + 4));
        Stores.logIs(due, s, Stores.MOST_LOG);
    }

    /** 24 blocks of 15 and of 14 bytes and two versions, which fill the log; tells what their pack is to be. */
    private static BoardStore largest(int[] pack) {
        BoardStore s = new BoardStore(1);
        pack[0] = 24;
        int at = 1;
        for (int n = 0; n < 24; n++) {
            int length = n < 14 ? 15 : 14;
            pack[at++] = n;
            pack[at++] = length;
            for (int i = 0; i < length; i++) {
                int b = (n * 11 + i * 3) % 256;
                s.feed(b);
                pack[at++] = b;
            }
            s.block();
            if (n == 7 || n == 15) {
                s.version();
            }
        }
        return s;
    }

    @Sentence(of = "Promise 8", words = "how many PACKS may still be")
    static void promise8_howManyPacksMayStillBe(Due due) {
        BoardStore s = new BoardStore(3);
        for (int left = 2; left >= 0; left--) {
            Stores.put(s, left);
            due.is("pack()", left, s::pack);
        }
    }

    @Sentence(of = "Promise 8", words = "how many PACKS may still be")
    static void promise8_packAsksForNoRoomInTheLog(Due due) {
        BoardStore s = Stores.withLog(Stores.MOST_LOG);
        due.is("pack() with a full log", 0, s::pack);
        Stores.logIs(due, s, Stores.MOST_LOG);
    }

    @Sentence(of = "Promise 8", words = "NONE, when there are no such BLOCKS")
    static void promise8_noneWhenThereAreNoSuchBlocks(Due due) {
        BoardStore s = new BoardStore(2);
        due.is("an empty store", -1, s::pack);
        s.feed(1);
        due.is("fed bytes alone", -1, s::pack);
        s.block();
        due.is("one block", 1, s::pack);
        due.is("all are in a pack", -1, s::pack);
        due.badIndex("no second pack", () -> s.packByte(1, 0));
        Stores.put(s, 2);
        due.is("a refused pack takes none away", 0, s::pack);
    }

    @Sentence(of = "Promise 8", words = "NONE, when there are no such BLOCKS")
    static void promise8_noneWhenAllAreSwept(Due due) {
        BoardStore s = new BoardStore(2);
        Stores.put(s, 1);
        s.version();
        s.drop(0);
        s.sweep();
        due.is("pack()", -1, s::pack);
    }

    @Sentence(of = "Promise 8", words = "or none may be")
    static void promise8_noneWhenNoPackMayBe(Due due) {
        BoardStore s = new BoardStore(1);
        Stores.put(s, 1);
        s.pack();
        Stores.put(s, 2);
        due.is("pack()", -1, s::pack);
        due.badIndex("no second pack", () -> s.packByte(1, 0));
        Stores.packIs(due, s, 0, 1, 0, 1, 1);
        s.version();
        s.drop(0);
        s.sweep();
        Stores.put(s, 3);
        due.is("a sweep makes no room for one", -1, s::pack);
    }

    @Sentence(of = "Promise 8", words = "IllegalStateException likewise.")
    static void promise8_refusedWhenItCrashed(Due due) {
        BoardStore s = Stores.crashed();
        due.badState("pack()", s::pack);
        s.reopen();
        due.is("behind reopen()", 1, s::pack);
    }
}
