/** The sentences of promises 9 to 11: byteAt, crash, reopen. */
final class Sentences9To11 {
    private Sentences9To11() {
    }

    @Sentence(of = "Promise 9", words = "Byte i of a BLOCK")
    static void promise9_theFirstAndTheLastByte(Due due) {
        BoardStore s = new BoardStore(1);
        Stores.put(s, 255, 1, 0);
        Stores.put(s, 44);
        due.is("byteAt(0, 0)", 255, () -> s.byteAt(0, 0));
        due.is("byteAt(0, 1)", 1, () -> s.byteAt(0, 1));
        due.is("byteAt(0, 2)", 0, () -> s.byteAt(0, 2));
        due.is("byteAt(1, 0)", 44, () -> s.byteAt(1, 0));
    }

    @Sentence(of = "Promise 9", words = "Byte i of a BLOCK")
    static void promise9_theLastOf24BytesOfTheLastBlock(Due due) {
        BoardStore s = new BoardStore(1);
        for (int n = 0; n < 23; n++) {
            Stores.put(s, n);
            if (n % 8 == 7) {
                s.version();
            }
        }
        for (int i = 0; i < 24; i++) {
            s.feed(100 + i);
        }
        due.is("block()", 23, s::block);
        due.is("byteAt(23, 0)", 100, () -> s.byteAt(23, 0));
        due.is("byteAt(23, 23)", 123, () -> s.byteAt(23, 23));
        due.is("byteAt(22, 0)", 22, () -> s.byteAt(22, 0));
    }

    @Sentence(of = "Promise 9", words = "Byte i of a BLOCK")
    static void promise9_blocksOfTheOpenAndOfADroppedVersion(Due due) {
        BoardStore s = new BoardStore(1);
        Stores.put(s, 6);
        due.is("of the open one", 6, () -> s.byteAt(0, 0));
        s.version();
        s.drop(0);
        due.is("of a dropped one, not swept yet", 6, () -> s.byteAt(0, 0));
    }

    @Sentence(of = "Promise 9", words = "NONE behind it")
    static void promise9_noneBehindIt(Due due) {
        BoardStore s = new BoardStore(1);
        Stores.put(s, 1, 2);
        Stores.put(s, 3);
        Stores.put(s);
        Stores.putMany(s, 4, 24);
        Stores.feedMany(s, 9, 5);
        int[][] blocksAndLengths = {{0, 2}, {1, 1}, {2, 0}, {3, 24}};
        for (int[] row : blocksAndLengths) {
            for (int i : new int[] {row[1], row[1] + 1, 25, 600, Integer.MAX_VALUE}) {
                due.is("byteAt(" + row[0] + ", " + i + ")", -1, () -> s.byteAt(row[0], i));
            }
        }
    }

    @Sentence(of = "Promise 9", words = "or when it is not THERE")
    static void promise9_noneWhenItIsNotThere(Due due) {
        BoardStore s = new BoardStore(1);
        Stores.put(s, 1, 2);
        s.version();
        s.pack();
        s.drop(0);
        s.sweep();
        for (int i : new int[] {0, 1, 2, Integer.MAX_VALUE}) {
            due.is("byteAt(0, " + i + ")", -1, () -> s.byteAt(0, i));
        }
    }

    @Sentence(of = "Promise 9", words = "IndexOutOfBoundsException, when no BLOCK had that number")
    static void promise9_noBlockHadThatNumber(Due due) {
        BoardStore s = new BoardStore(1);
        Stores.put(s, 1);
        s.feed(2);
        for (int bad : new int[] {1, 2, 23, 24, 25}) {
            due.badIndex("byteAt(" + bad + ", 0)", () -> s.byteAt(bad, 0));
        }
        for (int bad : Stores.FAR_OUT) {
            due.badIndex("byteAt(" + bad + ", 0)", () -> s.byteAt(bad, 0));
        }
        BoardStore all = Stores.withAllBlocks(1);
        due.is("byteAt(23, 0)", 23, () -> all.byteAt(23, 0));
        due.badIndex("byteAt(24, 0)", () -> all.byteAt(24, 0));
    }

    @Sentence(of = "Promise 9", words = "or i is below 0")
    static void promise9_iIsBelow0(Due due) {
        BoardStore s = new BoardStore(1);
        Stores.put(s, 1);
        Stores.put(s, 2);
        due.is("byteAt(1, 0)", 2, () -> s.byteAt(1, 0));
        for (int bad : new int[] {-1, -2, Integer.MIN_VALUE}) {
            due.badIndex("byteAt(1, " + bad + ")", () -> s.byteAt(1, bad));
        }
        s.version();
        s.drop(0);
        s.sweep();
        due.badIndex("of one that is not there, too", () -> s.byteAt(1, -1));
    }

    @Sentence(of = "Promise 9", words = "IllegalStateException, ahead of it.")
    static void promise9_refusedWhenItCrashedAheadOfAWrongIndex(Due due) {
        BoardStore s = Stores.crashed();
        due.badState("byteAt(0, 0)", () -> s.byteAt(0, 0));
        due.badState("byteAt(24, 0)", () -> s.byteAt(24, 0));
        due.badState("byteAt(0, -1)", () -> s.byteAt(0, -1));
        s.reopen();
        due.is("behind reopen()", 5, () -> s.byteAt(0, 0));
    }

    @Sentence(of = "Promise 10", words = "It crashes")
    static void promise10_itCrashes(Due due) {
        BoardStore s = new BoardStore(1);
        due.is("crash(0)", false, () -> s.crash(0));
        due.badState("feed(1)", () -> s.feed(1));
        due.is("reopen()", 0, s::reopen);
        due.is("feed(1) behind it", true, () -> s.feed(1));
    }

    @Sentence(of = "Promise 10", words = "so many bytes of the LOG are kept (0 .. all it has)")
    static void promise10_noneAreKept(Due due) {
        BoardStore s = Stores.withAllBlocks(1);
        due.is("crash(0)", true, () -> s.crash(0));
        due.is("reopen()", 0, s::reopen);
        Stores.logIs(due, s, 0);
    }

    @Sentence(of = "Promise 10", words = "so many bytes of the LOG are kept (0 .. all it has)")
    static void promise10_someAreKept(Due due) {
        for (int n = 1; n < 8; n++) {
            int kept = n;
            BoardStore s = new BoardStore(1);
            for (int v = 0; v < 8; v++) {
                s.version();
            }
            due.is("crash(" + kept + ")", true, () -> s.crash(kept));
            due.is("reopen()", kept, s::reopen);
            Stores.logIs(due, s, kept);
        }
    }

    @Sentence(of = "Promise 10", words = "so many bytes of the LOG are kept (0 .. all it has)")
    static void promise10_all400AreKept(Due due) {
        BoardStore s = Stores.withLog(400);
        due.is("crash(400)", false, () -> s.crash(400));
        due.is("reopen()", 1, s::reopen);
        Stores.logIs(due, s, 400);
    }

    @Sentence(of = "Promise 10", words = "whether it had more")
    static void promise10_whetherItHadMore(Due due) {
        BoardStore all = new BoardStore(1);
        Stores.put(all, 1);
        due.is("all 3", false, () -> all.crash(3));
        BoardStore less = new BoardStore(1);
        Stores.put(less, 1);
        due.is("one less", true, () -> less.crash(2));
        less.reopen();
        due.is("an empty log", false, () -> less.crash(0));
        BoardStore full = Stores.withLog(400);
        due.is("one less than 400", true, () -> full.crash(399));
    }

    @Sentence(of = "Promise 10", words = "IllegalArgumentException, when kept is not so")
    static void promise10_keptIsBelow0OrMoreThanAll(Due due) {
        BoardStore s = new BoardStore(1);
        due.badArgument("crash(1) of an empty log", () -> s.crash(1));
        due.badArgument("crash(-1) of an empty log", () -> s.crash(-1));
        Stores.put(s, 1);
        due.badArgument("crash(4) of 3", () -> s.crash(4));
        due.badArgument("crash(400) of 3", () -> s.crash(400));
        for (int bad : Stores.FAR_OUT) {
            due.badArgument("crash(" + bad + ") of 3", () -> s.crash(bad));
        }
        due.is("a refused crash is none", 1, () -> s.byteAt(0, 0));
        due.badState("so there is nothing to open again", s::reopen);
        due.is("and all bytes are still kept", false, () -> s.crash(3));
    }

    @Sentence(of = "Promise 10", words = "IllegalArgumentException, when kept is not so")
    static void promise10_keptIsMoreThan400(Due due) {
        BoardStore s = Stores.withLog(400);
        due.badArgument("crash(401)", () -> s.crash(401));
        due.is("it did not crash", 0, () -> s.out(0, 0));
    }

    @Sentence(of = "Promise 10", words = "IllegalArgumentException, when kept is not so")
    static void promise10_keptIsMoreThanWhatReopenLeft(Due due) {
        BoardStore s = new BoardStore(1);
        s.version();
        Stores.put(s, 1, 2);
        s.crash(4);
        s.reopen();
        due.badArgument("the rest of a record was cut off", () -> s.crash(2));
        due.is("crash(1)", false, () -> s.crash(1));
    }

    @Sentence(of = "Promise 10", words = "IllegalStateException, ahead of it.")
    static void promise10_refusedWhenItCrashedAheadOfAWrongArgument(Due due) {
        BoardStore s = Stores.crashed();
        for (int kept : new int[] {0, 4, 5, 401, -1}) {
            due.badState("crash(" + kept + ")", () -> s.crash(kept));
        }
        due.is("the log is as it was kept", 1, s::reopen);
        Stores.logIs(due, s, 4);
    }

    /** Records of 4, 2, 1, 2, 1, 2 and 1 bytes: all five kinds, the versions 0 and 1 closed and 0 dropped. */
    private static BoardStore story() {
        BoardStore s = new BoardStore(2);
        Stores.put(s, 1, 2);
        Stores.put(s);
        s.version();
        Stores.put(s);
        s.version();
        s.drop(0);
        s.sweep();
        return s;
    }

    @Sentence(of = "Promise 11", words = "All acts whose RECORDS are whole in the LOG are done anew")
    static void promise11_allActsComeBack(Due due) {
        BoardStore s = story();
        Stores.logIs(due, s, 13);
        due.is("reopen()", 2, s::reopen);
        due.is("the drop", false, () -> s.drop(0));
        due.is("the sweep", -1, () -> s.byteAt(0, 0));
        due.is("the empty block", 1, () -> s.digest(1, 3));
        due.is("the old block in version 1", true, () -> s.holds(1, 1));
        due.is("the next number", 2, () -> Stores.put(s, 1, 2));
    }

    @Sentence(of = "Promise 11", words = "All acts whose RECORDS are whole in the LOG are done anew")
    static void promise11_aNewBlockNeedsItsLastByte(Due due) {
        for (int n = 0; n <= 26; n++) {
            int kept = n;
            BoardStore s = new BoardStore(1);
            Stores.putMany(s, 8, 24);
            s.crash(kept);
            s.reopen();
            if (kept < 26) {
                due.badIndex("cut behind " + kept, () -> s.byteAt(0, 0));
            } else {
                due.is("whole", 8, () -> s.byteAt(0, 23));
            }
        }
    }

    @Sentence(of = "Promise 11", words = "All acts whose RECORDS are whole in the LOG are done anew")
    static void promise11_anEmptyBlockNeedsItsLength(Due due) {
        BoardStore cut = new BoardStore(1);
        cut.block();
        cut.crash(1);
        cut.reopen();
        due.badIndex("cut behind its 1", () -> cut.byteAt(0, 0));
        BoardStore whole = new BoardStore(1);
        whole.block();
        whole.crash(2);
        whole.reopen();
        due.is("whole", -1, () -> whole.byteAt(0, 0));
    }

    @Sentence(of = "Promise 11", words = "All acts whose RECORDS are whole in the LOG are done anew")
    static void promise11_anOldBlockNeedsItsNumber(Due due) {
        for (int n = 9; n <= 10; n++) {
            int kept = n;
            BoardStore s = new BoardStore(1);
            Stores.put(s, 1, 2);
            Stores.put(s, 3);
            s.version();
            Stores.put(s, 3);
            s.crash(kept);
            s.reopen();
            s.version();
            due.is("whether version 1 has it behind " + kept, kept == 10, () -> s.holds(1, 1));
        }
    }

    @Sentence(of = "Promise 11", words = "All acts whose RECORDS are whole in the LOG are done anew")
    static void promise11_aVersionNeedsItsByte(Due due) {
        BoardStore cut = story();
        cut.crash(6);
        due.is("the byte is cut", 0, cut::reopen);
        BoardStore whole = story();
        whole.crash(7);
        due.is("it is whole", 1, whole::reopen);
    }

    @Sentence(of = "Promise 11", words = "All acts whose RECORDS are whole in the LOG are done anew")
    static void promise11_aDropNeedsItsNumber(Due due) {
        BoardStore cut = story();
        cut.crash(11);
        due.is("reopen()", 2, cut::reopen);
        due.is("the number is cut: it is not dropped", true, () -> cut.holds(0, 0));
        BoardStore whole = story();
        whole.crash(12);
        whole.reopen();
        due.is("it is whole", false, () -> whole.holds(0, 0));
    }

    @Sentence(of = "Promise 11", words = "All acts whose RECORDS are whole in the LOG are done anew")
    static void promise11_aSweepNeedsItsByte(Due due) {
        BoardStore cut = story();
        cut.crash(12);
        cut.reopen();
        due.is("the byte is cut: block 0 is there", 1, () -> cut.byteAt(0, 0));
        BoardStore whole = story();
        whole.crash(13);
        whole.reopen();
        due.is("it is whole", -1, () -> whole.byteAt(0, 0));
    }

    @Sentence(of = "Promise 11", words = "in order")
    static void promise11_aBlockAheadOfASweepAndOneBehindIt(Due due) {
        BoardStore s = new BoardStore(1);
        Stores.put(s, 1);
        s.version();
        s.sweep();
        s.drop(0);
        Stores.put(s, 2);
        s.sweep();
        Stores.put(s, 1);
        Stores.logIs(due, s, 14);
        s.reopen();
        due.is("block 0 went with the second sweep", -1, () -> s.byteAt(0, 0));
        due.is("block 1 stayed", 2, () -> s.byteAt(1, 0));
        due.is("the same bytes came anew as block 2", 1, () -> s.byteAt(2, 0));
        s.version();
        due.is("version 1 has block 1 first", 2, () -> s.out(1, 0));
        due.is("and block 2 behind it", 1, () -> s.out(1, 1));
    }

    @Sentence(of = "Promise 11", words = "in order")
    static void promise11_aBlockThatADroppedVersionHadAndANewOneTook(Due due) {
        BoardStore s = new BoardStore(1);
        Stores.put(s, 1);
        s.version();
        s.drop(0);
        Stores.put(s, 1);
        s.sweep();
        s.version();
        s.crash(3 + 1 + 2 + 2 + 1 + 1);
        due.is("reopen()", 2, s::reopen);
        due.is("the block is there", 1, () -> s.byteAt(0, 0));
        due.is("in version 1", true, () -> s.holds(1, 0));
        due.is("not in version 0", false, () -> s.holds(0, 0));
    }

    @Sentence(of = "Promise 11", words = "as from the beginning")
    static void promise11_numbersBeginAnewFrom0(Due due) {
        BoardStore s = story();
        s.crash(4);
        s.reopen();
        due.is("block 0 came back", 2, () -> s.byteAt(0, 1));
        due.is("the next block", 1, () -> Stores.put(s, 7));
        due.is("the first version", 0, s::version);
        due.is("which is not dropped", 7, () -> s.out(0, 2));
    }

    @Sentence(of = "Promise 11", words = "as from the beginning")
    static void promise11_limitsCountFromTheBeginning(Due due) {
        BoardStore s = Stores.withAllBlocks(1);
        s.crash(75);
        s.reopen();
        due.is("a 25th block", -1, () -> Stores.put(s, 24));
        s.crash(25);
        s.reopen();
        for (int n = 8; n < 24; n++) {
            int b = n;
            due.is("block " + n + " again", n, () -> Stores.put(s, 100 + b));
            if (n % 8 == 7) {
                due.is("version", n / 8, s::version);
            }
        }
        due.is("a 25th block again", -1, () -> Stores.put(s, 24));
        s.crash(0);
        s.reopen();
        for (int v = 0; v < 12; v++) {
            due.is("version " + v, v, s::version);
        }
        due.is("a 13th version", -1, s::version);
    }

    @Sentence(of = "Promise 11", words = "as from the beginning")
    static void promise11_theOpenVersionComesBackWithIts8Blocks(Due due) {
        BoardStore s = new BoardStore(1);
        for (int n = 0; n < 8; n++) {
            Stores.put(s, n);
        }
        s.crash(24);
        due.is("reopen()", 0, s::reopen);
        due.is("a ninth", -1, () -> Stores.put(s, 8));
        due.is("version()", 0, s::version);
        due.is("its eighth", 7, () -> s.out(0, 7));
        due.is("no ninth", -1, () -> s.out(0, 8));
    }

    @Sentence(of = "Promise 11", words = "what is left of the LOG behind them is cut off")
    static void promise11_theRestOfTheLogIsCutOff(Due due) {
        int[] ends = {0, 4, 6, 7, 9, 10, 12, 13};
        for (int kept = 0; kept <= 13; kept++) {
            BoardStore s = story();
            s.crash(kept);
            s.reopen();
            int whole = 0;
            for (int end : ends) {
                whole = end <= kept ? end : whole;
            }
            Stores.logIs(due, s, whole);
        }
    }

    @Sentence(of = "Promise 11", words = "what is left of the LOG behind them is cut off")
    static void promise11_newActsStandBehindTheWholeRecords(Due due) {
        BoardStore s = new BoardStore(1);
        s.version();
        Stores.putMany(s, 3, 24);
        s.crash(20);
        s.reopen();
        due.is("a new block", 0, () -> Stores.put(s, 9));
        due.is("a version", 1, s::version);
        Stores.logIs(due, s, 1 + 3 + 1);
        due.is("reopen()", 2, s::reopen);
        due.is("the new block came back", 9, () -> s.out(1, 0));
        due.is("and nothing else", -1, () -> s.out(1, 1));
    }

    @Sentence(of = "Promise 11", words = "what is left of the LOG behind them is cut off")
    static void promise11_theCutMakesRoom(Due due) {
        BoardStore s = Stores.withLog(371);
        due.is("a block of 24 fits", 5, () -> Stores.putMany(s, 9, 24));
        due.is("400 would be 3 more", false, () -> s.crash(397));
        s.reopen();
        due.is("a block of 2 does not fit", -1, () -> Stores.put(s, 1, 2));
        s.crash(396);
        s.reopen();
        due.is("the block is gone, so 24 fit again", 5, () -> Stores.putMany(s, 7, 24));
        Stores.logIs(due, s, 397);
    }

    @Sentence(of = "Promise 11", words = "how many VERSIONS there are")
    static void promise11_howManyVersions(Due due) {
        for (int n = 0; n <= 12; n++) {
            BoardStore s = new BoardStore(1);
            for (int v = 0; v < n; v++) {
                s.version();
            }
            s.block();
            s.crash(n);
            due.is("of " + n, n, s::reopen);
        }
    }

    @Sentence(of = "Promise 11", words = "how many VERSIONS there are")
    static void promise11_droppedVersionsCount(Due due) {
        BoardStore s = new BoardStore(1);
        s.version();
        s.version();
        s.drop(0);
        s.drop(1);
        s.crash(6);
        due.is("two, which have their numbers", 2, s::reopen);
        due.is("root(1)", 1, () -> s.root(1));
        due.is("the next number", 2, s::version);
    }

    @Sentence(of = "Promise 11", words = "(PACKS are none.)")
    static void promise11_packsAreNone(Due due) {
        BoardStore s = new BoardStore(2);
        Stores.put(s, 1);
        s.pack();
        Stores.put(s, 2);
        s.pack();
        s.poke(1, 0, 1);
        due.is("ahead of the crash", 1, s::badAt);
        s.crash(6);
        s.reopen();
        due.badIndex("no pack 0", () -> s.packByte(0, 0));
        due.badIndex("no pack 1", () -> s.poke(1, 0, 1));
        due.is("no bad pack", -1, s::badAt);
        due.is("two may be again", 1, s::pack);
        Stores.packIs(due, s, 0, 2, 0, 1, 1, 1, 1, 2);
        Stores.put(s, 3);
        due.is("the second", 0, s::pack);
        Stores.put(s, 4);
        due.is("no third", -1, s::pack);
    }

    @Sentence(of = "Promise 11", words = "IllegalStateException, when it did not crash.")
    static void promise11_refusedWhenItDidNotCrash(Due due) {
        BoardStore s = new BoardStore(1);
        due.badState("a new object", s::reopen);
        Stores.put(s, 1);
        due.badArgument("crash(9)", () -> s.crash(9));
        due.badState("behind a refused crash", s::reopen);
        due.is("it did nothing", 1, () -> s.byteAt(0, 0));
        s.crash(3);
        due.is("behind a crash", 0, s::reopen);
        due.badState("it is open already", s::reopen);
        due.is("it did nothing then", 1, () -> s.byteAt(0, 0));
    }
}
