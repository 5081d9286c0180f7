import java.util.Arrays;

/** The sentences of "Terms". */
final class SentencesOfTerms {
    private SentencesOfTerms() {
    }

    @Sentence(of = "Terms", words = "A BLOCK is 0 to 24 bytes.")
    static void terms_aBlockOfNoBytes(Due due) {
        BoardStore s = new BoardStore(1);
        due.is("block() of nothing fed", 0, s::block);
        due.is("its byte 0", -1, () -> s.byteAt(0, 0));
        due.is("version()", 0, s::version);
        due.is("the version has it", true, () -> s.holds(0, 0));
        Stores.logIs(due, s, 3);
        due.is("reopen()", 1, s::reopen);
        due.is("it came back", true, () -> s.holds(0, 0));
    }

    @Sentence(of = "Terms", words = "A BLOCK is 0 to 24 bytes.")
    static void terms_aBlockOf24Bytes(Due due) {
        BoardStore s = new BoardStore(1);
        for (int i = 0; i < 24; i++) {
            s.feed(200 + i);
        }
        due.is("feed of a 25th", false, () -> s.feed(224));
        due.is("block()", 0, s::block);
        due.is("its last byte", 223, () -> s.byteAt(0, 23));
        due.is("behind it", -1, () -> s.byteAt(0, 24));
        Stores.logIs(due, s, 26);
        s.reopen();
        due.is("it came back to its last byte", 223, () -> s.byteAt(0, 23));
    }

    @Sentence(of = "Terms", words = "BLOCKS are numbered from 0 as they come")
    static void terms_blocksAreNumberedFrom0AsTheyCome(Due due) {
        BoardStore s = new BoardStore(1);
        due.is("the first", 0, () -> Stores.put(s, 9));
        due.is("the second", 1, () -> Stores.put(s, 8));
        due.is("an old one takes no number", 0, () -> Stores.put(s, 9));
        due.is("the third", 2, () -> Stores.put(s, 7));
        s.version();
        due.is("a version does not begin anew", 3, () -> Stores.put(s, 6));
    }

    @Sentence(of = "Terms", words = "at most 24")
    static void terms_atMost24Blocks(Due due) {
        BoardStore s = new BoardStore(1);
        for (int n = 0; n < 24; n++) {
            int b = n;
            due.is("block " + n, n, () -> Stores.put(s, b));
            if (n % 8 == 7) {
                s.version();
            }
        }
        due.is("a 25th", -1, () -> Stores.put(s, 24));
        due.is("the last is there", 23, () -> s.byteAt(23, 0));
        due.badIndex("no 25th is", () -> s.byteAt(24, 0));
    }

    @Sentence(of = "Terms", words = "a number is not used again")
    static void terms_aSweptBlocksNumberIsNotUsedAgain(Due due) {
        BoardStore s = new BoardStore(1);
        Stores.put(s, 1);
        s.version();
        s.drop(0);
        due.is("sweep()", 1, s::sweep);
        due.is("the same bytes come under the next number", 1, () -> Stores.put(s, 1));
        due.is("the swept one is not there", -1, () -> s.byteAt(0, 0));
        due.is("the new one is", 1, () -> s.byteAt(1, 0));
    }

    @Sentence(of = "Terms", words = "a number is not used again")
    static void terms_aDroppedVersionsNumberIsNotUsedAgain(Due due) {
        BoardStore s = new BoardStore(1);
        s.version();
        s.version();
        due.is("drop(1)", true, () -> s.drop(1));
        due.is("the next version", 2, s::version);
        due.is("the dropped one is still dropped", false, () -> s.drop(1));
    }

    @Sentence(of = "Terms", words = "VERSIONS are numbered from 0")
    static void terms_versionsAreNumberedFrom0(Due due) {
        BoardStore s = new BoardStore(1);
        due.badIndex("there is no version 0 yet", () -> s.root(0));
        due.is("the first", 0, s::version);
        due.is("version 0 is there", 1, () -> s.root(0));
        due.is("the second", 1, s::version);
    }

    @Sentence(of = "Terms", words = "at most 12")
    static void terms_atMost12Versions(Due due) {
        BoardStore s = new BoardStore(1);
        for (int v = 0; v < 12; v++) {
            due.is("version " + v, v, s::version);
        }
        due.is("a 13th", -1, s::version);
        due.is("the last is there", 1, () -> s.root(11));
        due.badIndex("no 13th is", () -> s.root(12));
    }

    @Sentence(of = "Terms", words = "rows of BLOCKS' numbers, up to 8 each")
    static void terms_aVersionHasUpTo8Blocks(Due due) {
        BoardStore s = new BoardStore(1);
        for (int n = 0; n < 8; n++) {
            int b = n;
            due.is("block " + n, n, () -> Stores.put(s, b));
        }
        due.is("a ninth", -1, () -> Stores.put(s, 8));
        s.version();
        due.is("the eighth is in it", 7, () -> s.out(0, 7));
        due.is("no ninth is", -1, () -> s.out(0, 8));
    }

    @Sentence(of = "Terms", words = "rows of BLOCKS' numbers, up to 8 each")
    static void terms_aVersionHasOneBlockUpTo8Times(Due due) {
        BoardStore s = new BoardStore(1);
        for (int n = 0; n < 8; n++) {
            due.is("time " + n, 0, () -> Stores.put(s, 3));
        }
        due.is("a ninth time", -1, () -> Stores.put(s, 3));
        s.version();
        due.is("byte 7", 3, () -> s.out(0, 7));
        due.is("byte 8", -1, () -> s.out(0, 8));
    }

    @Sentence(of = "Terms", words = "rows of BLOCKS' numbers, up to 8 each")
    static void terms_all12VersionsAndTheOpenOneHave8Blocks(Due due) {
        BoardStore s = new BoardStore(1);
        for (int v = 0; v <= 12; v++) {
            for (int n = 0; n < 8; n++) {
                int block = n;
                due.is("block " + n + " of version " + v, n, () -> Stores.put(s, block));
            }
            due.is("version " + v, v < 12 ? v : -1, s::version);
        }
        for (int v = 0; v < 12; v++) {
            int version = v;
            due.is("the eighth of version " + v, 7, () -> s.out(version, 7));
            s.drop(version);
        }
        due.is("the open one has all 8", 0, s::sweep);
        due.is("its eighth is there", 7, () -> s.byteAt(7, 0));
        due.is("it takes no ninth", -1, () -> Stores.put(s, 7));
    }

    @Sentence(of = "Terms", words = "One VERSION is open, at first empty")
    static void terms_theOpenVersionIsEmptyAtFirst(Due due) {
        BoardStore s = new BoardStore(1);
        due.is("it can be closed at once", 0, s::version);
        due.is("it has no byte", -1, () -> s.out(0, 0));
        due.is("its root", 1, () -> s.root(0));
        Stores.put(s, 1);
        due.is("it has no block", false, () -> s.holds(0, 0));
    }

    @Sentence(of = "Terms", words = "bytes that are FED become a BLOCK of it")
    static void terms_fedBytesBecomeABlockOfTheOpenVersion(Due due) {
        BoardStore s = new BoardStore(1);
        s.version();
        s.feed(4);
        due.badIndex("fed bytes alone are no block", () -> s.byteAt(0, 0));
        due.is("block()", 0, s::block);
        due.is("it is not the closed one's", false, () -> s.holds(0, 0));
        s.version();
        due.is("but that of the one that was open", true, () -> s.holds(1, 0));
    }

    @Sentence(of = "Terms", words = "The SUM of bytes: s is 1 at first")
    static void terms_theSumOfNoBytesIs1(Due due) {
        BoardStore s = new BoardStore(1);
        s.block();
        sumIs(due, s, 0, 0, 0, 0, 1);
    }

    @Sentence(of = "Terms", words = "for each byte b (0 .. 255) it becomes (s exclusive or b)")
    static void terms_theSumOfBytes0And255(Due due) {
        BoardStore s = new BoardStore(1);
        Stores.put(s, 1);
        // 1 exclusive or 1 is 0, which turning and multiplying leave alone.
        sumIs(due, s, 0, 0, 0, 0, 0);
        Stores.put(s, 0);
        sumIs(due, s, 1, 0x80, 0, 0, 0);
        Stores.put(s, 255);
        // 1 exclusive or 255 is 254, turned 127; 127 times 0xC2B2AE35 is 0x6096A46C4B.
        sumIs(due, s, 2, 0x96, 0xA4, 0x6C, 0x4B);
        Stores.put(s, 1, 255, 0, 3);
        long sum = Stores.sum(1, 255, 0, 3);
        for (int i = 0; i < 4; i++) {
            int at = i;
            due.is("byte " + i + " of several", Stores.byteOfSum(sum, i), () -> s.digest(3, at));
        }
    }

    @Sentence(of = "Terms", words = "turned to the left by 31 of its 32 bits")
    static void terms_theSumsLowestBitWrapsAroundToTheHighest(Due due) {
        BoardStore s = new BoardStore(1);
        Stores.put(s, 0);
        // 1 turned is 0x80000000, and an odd factor leaves that.
        sumIs(due, s, 0, 0x80, 0, 0, 0);
        Stores.put(s, 0, 0);
        sumIs(due, s, 1, 0x40, 0, 0, 0);
        Stores.put(s, 3);
        // 1 exclusive or 3 is 2, turned 1.
        sumIs(due, s, 2, 0xC2, 0xB2, 0xAE, 0x35);
    }

    @Sentence(of = "Terms", words = "times 0xC2B2AE35, its lowest 32 bits")
    static void terms_theSumsProductIsCutToItsLowest32Bits(Due due) {
        BoardStore s = new BoardStore(1);
        Stores.put(s, 5);
        // 1 exclusive or 5 is 4, turned 2; twice 0xC2B2AE35 is 0x185655C6A.
        sumIs(due, s, 0, 0x85, 0x65, 0x5C, 0x6A);
        Stores.putMany(s, 254, 24);
        int[] bytes = new int[24];
        Arrays.fill(bytes, 254);
        long sum = Stores.sum(bytes);
        for (int i = 0; i < 4; i++) {
            int at = i;
            due.is("byte " + i + " of 24 bytes", Stores.byteOfSum(sum, i), () -> s.digest(1, at));
        }
    }

    private static void sumIs(Due due, BoardStore s, int block, int... want) {
        for (int i = 0; i < 4; i++) {
            int at = i;
            due.is("digest(" + block + ", " + i + ")", want[i], () -> s.digest(block, at));
        }
    }

    @Sentence(of = "Terms", words = "The LOG is bytes, at most 400")
    static void terms_theLogTakes400Bytes(Due due) {
        BoardStore s = Stores.withLog(399);
        due.is("a record of the 400th byte", 1, s::version);
        due.is("a 401st byte", -1, s::version);
        Stores.logIs(due, s, 400);
        due.is("reopen() from all 400", 2, s::reopen);
        due.is("it is still full", -1, s::version);
    }

    @Sentence(of = "Terms", words = "each of these acts adds one RECORD of it")
    static void terms_otherCallsAddNoRecord(Due due) {
        BoardStore s = new BoardStore(1);
        Stores.put(s, 1);
        s.version();
        s.feed(2);
        s.pack();
        s.poke(0, 0, 1);
        s.badAt();
        s.packByte(0, 0);
        s.holds(0, 0);
        s.root(0);
        s.byteAt(0, 0);
        s.digest(0, 0);
        s.out(0, 0);
        Stores.logIs(due, s, 4);
        s.reopen();
        Stores.logIs(due, s, 4);
    }

    @Sentence(of = "Terms", words = "each of these acts adds one RECORD of it")
    static void terms_refusedActsAddNoRecord(Due due) {
        BoardStore s = Stores.withAllBlocks(1);
        s.drop(0);
        due.is("dropped already", false, () -> s.drop(0));
        due.badIndex("no such version", () -> s.drop(3));
        due.is("a 25th block", -1, () -> Stores.put(s, 24));
        for (int v = 3; v < 12; v++) {
            s.version();
        }
        due.is("a 13th version", -1, s::version);
        Stores.logIs(due, s, 75 + 2 + 9);
    }

    @Sentence(of = "Terms", words = "each of these acts adds one RECORD of it")
    static void terms_aNinthBlockAddsNoRecord(Due due) {
        BoardStore s = new BoardStore(1);
        for (int n = 0; n < 8; n++) {
            s.block();
        }
        due.is("a ninth", -1, s::block);
        Stores.logIs(due, s, 2 + 7 * 2);
    }

    @Sentence(of = "Terms", words = "a new BLOCK (1, its length, its bytes)")
    static void terms_aNewBlocksRecordHasItsLengthAndBytes(Due due) {
        for (int n = 0; n <= 24; n++) {
            int length = n;
            BoardStore s = new BoardStore(1);
            due.is("a block of " + length, 0, () -> Stores.putMany(s, 77, length));
            Stores.logIs(due, s, 2 + length);
            s.reopen();
            due.is("its last byte came back", length == 0 ? -1 : 77, () -> s.byteAt(0, Math.max(0, length - 1)));
            due.is("nothing is behind it", -1, () -> s.byteAt(0, length));
        }
    }

    @Sentence(of = "Terms", words = "a new BLOCK (1, its length, its bytes)")
    static void terms_aNewBlocksBytesThatLookLikeRecordsAreNone(Due due) {
        BoardStore s = new BoardStore(1);
        Stores.put(s, 3, 3, 5, 4, 0, 1, 0, 2, 0);
        Stores.logIs(due, s, 11);
        due.is("no version came of them", 0, s::reopen);
        due.badIndex("no second block did", () -> s.byteAt(1, 0));
        due.is("crash(10): the block is not whole", true, () -> s.crash(10));
        due.is("nor does a version come of its rest", 0, s::reopen);
        due.badIndex("nor a block", () -> s.byteAt(0, 0));
        Stores.logIs(due, s, 0);
    }

    @Sentence(of = "Terms", words = "an old one again (2, its number)")
    static void terms_anOldBlocksRecordHasTwoBytes(Due due) {
        BoardStore s = new BoardStore(1);
        Stores.putMany(s, 6, 24);
        due.is("again", 0, () -> Stores.putMany(s, 6, 24));
        s.version();
        Stores.logIs(due, s, 26 + 2 + 1);
        s.reopen();
        due.is("the version has it twice", 6, () -> s.out(0, 47));
        due.is("not more often", -1, () -> s.out(0, 48));
    }

    @Sentence(of = "Terms", words = "an old one again (2, its number)")
    static void terms_theOldBlock23IsToldByItsNumber(Due due) {
        BoardStore s = Stores.withAllBlocks(1);
        due.is("the last block again", 23, () -> Stores.put(s, 23));
        due.is("the first block again", 0, () -> Stores.put(s, 0));
        s.version();
        Stores.logIs(due, s, 75 + 2 + 2 + 1);
        s.reopen();
        due.is("its byte", 23, () -> s.out(3, 0));
        due.is("the other's", 0, () -> s.out(3, 1));
    }

    @Sentence(of = "Terms", words = "a VERSION closed (3)")
    static void terms_aClosedVersionsRecordHasOneByte(Due due) {
        BoardStore s = new BoardStore(1);
        s.version();
        s.version();
        Stores.logIs(due, s, 2);
        due.is("reopen()", 2, s::reopen);
    }

    @Sentence(of = "Terms", words = "dropped (4, its number)")
    static void terms_aDroppedVersionsRecordHasTwoBytes(Due due) {
        BoardStore s = new BoardStore(1);
        for (int v = 0; v < 12; v++) {
            s.version();
        }
        s.drop(11);
        s.drop(0);
        Stores.logIs(due, s, 12 + 2 + 2);
        s.reopen();
        due.is("the last was dropped", false, () -> s.drop(11));
        due.is("the first was", false, () -> s.drop(0));
        due.is("no other was", true, () -> s.drop(4));
    }

    @Sentence(of = "Terms", words = "a sweep (5)")
    static void terms_aSweepsRecordHasOneByte(Due due) {
        BoardStore s = new BoardStore(1);
        Stores.put(s, 1);
        s.version();
        s.drop(0);
        due.is("sweep()", 1, s::sweep);
        Stores.logIs(due, s, 3 + 1 + 2 + 1);
        s.reopen();
        due.is("it was swept", -1, () -> s.byteAt(0, 0));
    }

    @Sentence(of = "Terms", words = "An act whose RECORD has no room is not done.")
    static void terms_anActIsDoneWithJustRoomAndNotWithAByteLess(Due due) {
        BoardStore blockFits = Stores.withLog(400 - 2 - 9);
        due.is("a new block with just room", 5, () -> Stores.putMany(blockFits, 9, 9));
        BoardStore block = Stores.withLog(400 - 2 - 8);
        due.is("a new block with a byte too little", -1, () -> Stores.putMany(block, 9, 9));
        due.badIndex("it is not there", () -> block.byteAt(5, 0));
        BoardStore emptyFits = Stores.withLog(398);
        due.is("an old block with just room", 1, emptyFits::block);
        BoardStore old = Stores.withLog(399);
        due.is("an old block with a byte too little", -1, old::block);
        due.is("the version may still be closed", 1, old::version);
        due.is("it does not have it", false, () -> old.holds(1, 1));
        BoardStore dropFits = Stores.withLog(398);
        due.is("a drop with just room", true, () -> dropFits.drop(0));
        BoardStore drop = Stores.withLog(399);
        due.is("a drop with a byte too little", false, () -> drop.drop(0));
        due.is("it is not dropped", true, () -> drop.holds(0, 0));
        BoardStore versionFits = Stores.withLog(399);
        due.is("a version with just room", 1, versionFits::version);
        BoardStore version = Stores.withLog(400);
        due.is("a version without room", -1, version::version);
        due.badIndex("it is not closed", () -> version.root(1));
    }

    @Sentence(of = "Terms", words = "An act whose RECORD has no room is not done.")
    static void terms_aSweepIsDoneWithJustRoomAndNotWithout(Due due) {
        BoardStore fits = Stores.withLog(397);
        fits.drop(0);
        due.is("with just room", 2, fits::sweep);
        due.is("the block is gone", -1, () -> fits.byteAt(0, 0));
        BoardStore full = Stores.withLog(398);
        full.drop(0);
        due.is("without", 0, full::sweep);
        due.is("the block is there", 0, () -> full.byteAt(0, 0));
    }

    @Sentence(of = "Terms", words = "An act whose RECORD has no room is not done.")
    static void terms_aShorterActIsDoneBehindOneThatHadNoRoom(Due due) {
        BoardStore s = Stores.withLog(396);
        due.is("a block of 3 bytes", -1, () -> Stores.put(s, 1, 2, 3));
        due.is("a drop", true, () -> s.drop(0));
        due.is("no other drop", false, () -> s.drop(0));
        due.is("a version", 1, s::version);
        due.is("a sweep", 2, s::sweep);
        due.is("no more", -1, s::version);
    }

    @Sentence(of = "Terms", words = "PACKS are numbered from 0.")
    static void terms_packsAreNumberedFrom0(Due due) {
        BoardStore s = new BoardStore(8);
        due.badIndex("there is no pack 0 yet", () -> s.packByte(0, 0));
        for (int p = 0; p < 8; p++) {
            int pack = p;
            Stores.put(s, 50 + p);
            s.pack();
            due.is("the block's number in pack " + p, p, () -> s.packByte(pack, 1));
            due.badIndex("there is no pack " + (p + 1), () -> s.packByte(pack + 1, 0));
        }
    }

    @Sentence(of = "Terms", words = "A PACK's bytes are: how many BLOCKS, for each its number, its length, its bytes")
    static void terms_aPackOfOneEmptyBlock(Due due) {
        BoardStore s = new BoardStore(1);
        s.block();
        s.pack();
        Stores.packIs(due, s, 0, 1, 0, 0);
    }

    @Sentence(of = "Terms", words = "A PACK's bytes are: how many BLOCKS, for each its number, its length, its bytes")
    static void terms_aPackOfAll24Blocks(Due due) {
        BoardStore s = Stores.withAllBlocks(1);
        int[] want = new int[1 + 24 * 3];
        want[0] = 24;
        for (int n = 0; n < 24; n++) {
            want[1 + 3 * n] = n;
            want[2 + 3 * n] = 1;
            want[3 + 3 * n] = n;
        }
        s.pack();
        Stores.packIs(due, s, 0, want);
    }

    @Sentence(of = "Terms", words = "A PACK's bytes are: how many BLOCKS, for each its number, its length, its bytes")
    static void terms_aPackOfBlocksOf24BytesAndOfNone(Due due) {
        BoardStore s = new BoardStore(1);
        Stores.putMany(s, 255, 24);
        Stores.put(s);
        Stores.putMany(s, 0, 24);
        s.pack();
        int[] want = new int[1 + 26 + 2 + 26];
        want[0] = 3;
        want[2] = 24;
        Arrays.fill(want, 3, 27, 255);
        want[27] = 1;
        want[29] = 2;
        want[30] = 24;
        Stores.packIs(due, s, 0, want);
    }

    @Sentence(of = "Terms", words = "then the SUM of these, its highest 8 bits first, as four bytes")
    static void terms_aPackEndsWithTheFourBytesOfItsSum(Due due) {
        BoardStore s = new BoardStore(1);
        Stores.put(s, 65, 66);
        s.pack();
        long sum = Stores.sum(1, 0, 2, 65, 66);
        for (int i = 0; i < 4; i++) {
            int at = i;
            due.is("byte " + i + " of the sum", Stores.byteOfSum(sum, i), () -> s.packByte(0, 5 + at));
        }
        due.badIndex("there is no fifth", () -> s.packByte(0, 9));
    }

    @Sentence(of = "Terms", words = "After crash() all is gone but the first bytes of the LOG")
    static void terms_afterCrash0NothingIsLeft(Due due) {
        BoardStore s = Stores.withAllBlocks(1);
        s.drop(0);
        s.pack();
        s.feed(9);
        due.is("crash(0)", true, () -> s.crash(0));
        due.is("reopen()", 0, s::reopen);
        due.badIndex("no block", () -> s.byteAt(0, 0));
        due.badIndex("no version", () -> s.root(0));
        due.badIndex("no pack", () -> s.packByte(0, 0));
        due.is("no fed byte, and numbers from 0", 0, s::block);
        due.is("the new block is empty", -1, () -> s.byteAt(0, 0));
        due.is("versions from 0", 0, s::version);
        due.is("a dropped one's mark is gone", true, () -> s.holds(0, 0));
        due.is("packs from 0", 0, s::pack);
        due.is("one block in it", 1, () -> s.packByte(0, 0));
    }

    @Sentence(of = "Terms", words = "After crash() all is gone but the first bytes of the LOG")
    static void terms_whatWasFedIsGoneAfterCrash(Due due) {
        BoardStore s = new BoardStore(1);
        Stores.feedMany(s, 9, 24);
        s.crash(0);
        s.reopen();
        due.is("24 may be fed again", true, () -> s.feed(1));
        due.is("block()", 0, s::block);
        due.is("the byte fed behind it alone", 1, () -> s.byteAt(0, 0));
        due.is("none else", -1, () -> s.byteAt(0, 1));
    }

    @Sentence(of = "Terms", words = "and nothing may be called but reopen()")
    static void terms_crashedEveryCallIsRefusedButReopen(Due due) {
        BoardStore s = Stores.crashed();
        for (int kind = 0; kind < 16; kind++) {
            int which = kind;
            if (kind != 9) {
                due.badState("call " + kind + " with arguments that were right", () -> Stores.call(s, which, 0, 0));
                due.badState("call " + kind + " with wrong ones", () -> Stores.call(s, which, -1, -1));
            }
        }
        due.is("reopen()", 1, s::reopen);
        due.is("the refused calls did nothing", 5, () -> s.out(0, 0));
        Stores.logIs(due, s, 4);
    }

    @Sentence(of = "Terms", words = "The constants: `NONE = -1`: There is none.")
    static void terms_noneIsMinus1(Due due) {
        due.is("NONE", -1, () -> BoardStore.NONE);
    }
}
