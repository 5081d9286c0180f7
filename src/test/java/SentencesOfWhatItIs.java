import java.util.Set;

/** The sentences of "What it is", the document's first ones. */
final class SentencesOfWhatItIs {
    private static final Set<String> THROWN_BY_THE_FACE = Set.of("throws.IllegalStateException",
            "throws.IndexOutOfBoundsException", "throws.IllegalArgumentException");

    private SentencesOfWhatItIs() {
    }

    @Sentence(of = "What it is", words = "A store of versions made of blocks of bytes")
    static void whatItIs_versionsAreMadeOfBlocksOfBytes(Due due) {
        BoardStore s = new BoardStore(1);
        Stores.put(s, 1, 2);
        Stores.put(s, 3);
        s.version();
        Stores.put(s, 3);
        Stores.put(s, 1, 2);
        s.version();
        outIs(due, s, 0, 1, 2, 3);
        outIs(due, s, 1, 3, 1, 2);
    }

    private static void outIs(Due due, BoardStore s, int version, int... bytes) {
        for (int i = 0; i < bytes.length; i++) {
            int at = i;
            due.is("out(" + version + ", " + i + ")", bytes[i], () -> s.out(version, at));
        }
        due.is("behind version " + version, -1, () -> s.out(version, bytes.length));
    }

    @Sentence(of = "What it is", words = "equal ones kept once")
    static void whatItIs_equalBlocksAreKeptOnce(Due due) {
        BoardStore s = new BoardStore(1);
        due.is("the first", 0, () -> Stores.put(s, 6, 6));
        due.is("in the same version", 0, () -> Stores.put(s, 6, 6));
        s.version();
        due.is("in the next version", 0, () -> Stores.put(s, 6, 6));
        due.is("pack()", 0, s::pack);
        Stores.packIs(due, s, 0, 1, 0, 2, 6, 6);
        Stores.logIs(due, s, 4 + 2 + 1 + 2);
    }

    @Sentence(of = "What it is", words = "a log from which all comes back behind a cut")
    static void whatItIs_allThatTheLogTellsComesBackBehindEachCut(Due due) {
        int[] ends = {4, 6, 8, 9, 12, 13, 15, 16, 20, 21};
        for (int kept = 0; kept <= 21; kept++) {
            BoardStore s = new BoardStore(1);
            doActs(s, ends.length);
            int cut = kept;
            due.is("crash(" + kept + ")", kept < 21, () -> s.crash(cut));
            s.reopen();
            int whole = 0;
            while (whole < ends.length && ends[whole] <= kept) {
                whole++;
            }
            BoardStore same = new BoardStore(1);
            doActs(same, whole);
            due.same("all that is seen behind crash(" + kept + ")", seen(same), seen(s));
        }
    }

    /** The first of some acts, of all kinds. */
    private static void doActs(BoardStore s, int many) {
        for (int n = 0; n < many; n++) {
            switch (n) {
                case 0: case 2: Stores.put(s, 1, 2); break;
                case 1: Stores.put(s); break;
                case 4: Stores.put(s, 3); break;
                case 6: s.drop(0); break;
                case 7: s.sweep(); break;
                case 8: Stores.put(s, 1, 2); break;
                default: s.version(); break;
            }
        }
    }

    private static String seen(BoardStore s) {
        StringBuilder all = new StringBuilder();
        all.append(s.pack()).append(' ').append(s.version());
        for (int number = 0; number < 5; number++) {
            int n = number;
            all.append("; ").append(Due.answer(() -> s.root(n))).append(' ').append(Due.answer(() -> s.byteAt(n, 0)));
            for (int block = 0; block < 5; block++) {
                int b = block;
                all.append(' ').append(Due.answer(() -> s.holds(n, b)));
            }
        }
        for (int i = 0; i < 20; i++) {
            int at = i;
            all.append(' ').append(Due.answer(() -> s.packByte(0, at)));
        }
        return all.toString();
    }

    @Sentence(of = "What it is", words = "blocks that no version holds are swept")
    static void whatItIs_onlyBlocksThatNoVersionHoldsAreSwept(Due due) {
        BoardStore s = new BoardStore(1);
        Stores.put(s, 1);
        Stores.put(s, 2);
        s.version();
        Stores.put(s, 2);
        s.drop(0);
        due.is("sweep()", 1, s::sweep);
        due.is("the one that none holds", -1, () -> s.byteAt(0, 0));
        due.is("the one that the open one holds", 2, () -> s.byteAt(1, 0));
    }

    @Sentence(of = "What it is", words = "packs of blocks with sums that tell an altered byte")
    static void whatItIs_aSumTellsEachByteThatIsAlteredToAnyOther(Due due) {
        int bytesOfPack = 1 + 2 + 1 + 4;
        for (int i = 0; i < bytesOfPack; i++) {
            for (int mask = 1; mask < 256; mask++) {
                BoardStore s = new BoardStore(1);
                Stores.put(s, 170);
                s.pack();
                s.poke(0, i, mask);
                due.is("badAt() behind poke(0, " + i + ", " + mask + ")", 0, s::badAt);
            }
        }
    }

    @Sentence(of = "What it is", words = "An object is used for at most 512 calls after it has been made")
    static void whatItIs_the512thCallIsAnsweredAsDue(Due due) {
        BoardStore s = new BoardStore(1);
        for (int n = 1; n <= 505; n++) {
            due.is("call " + n, -1, s::badAt);
        }
        due.is("call 506", true, () -> s.feed(7));
        due.is("call 507", 0, s::block);
        due.is("call 508", 0, s::version);
        due.is("call 509", 0, s::pack);
        due.is("call 510", 7, () -> s.out(0, 0));
        due.is("call 511", false, () -> s.crash(4));
        due.is("call 512", 1, s::reopen);
    }

    @Sentence(of = "What it is", words = "what later calls answer is free")
    static void whatItIs_laterCallsEndAndThrowNothingButWhatTheFaceNames(Due due) {
        BoardStore s = new BoardStore(8);
        for (int n = 1; n <= 20000; n++) {
            int a = n % 13 == 0 ? -n : n % 7;
            int b = n % 17 == 0 ? Integer.MAX_VALUE : n % 29;
            int kind = n % 97 == 0 ? 8 : n * 31 / 5 % 16;
            String answer = Due.answer(() -> Stores.call(s, kind, a, b));
            if (n > 512) {
                due.is("call " + n + " throws no other", true,
                        () -> !answer.startsWith("throws.") || THROWN_BY_THE_FACE.contains(answer));
            }
        }
    }
}
