/** The sentences of promises 12 to 14: poke, badAt, packByte. */
final class Sentences12To14 {
    private Sentences12To14() {
    }

    /** Pack 0 is 1, 0, 2, 3, 4 and a sum; pack 1 is 1, 1, 0 and a sum. */
    private static BoardStore twoPacks() {
        BoardStore s = new BoardStore(8);
        Stores.put(s, 3, 4);
        s.pack();
        Stores.put(s);
        s.pack();
        return s;
    }

    @Sentence(of = "Promise 12", words = "Byte i of a PACK becomes what it is, exclusive or mask")
    static void promise12_aByteBecomesWhatItIsExclusiveOrMask(Due due) {
        BoardStore s = twoPacks();
        s.poke(0, 3, 0b101);
        due.is("3 exclusive or 5", 6, () -> s.packByte(0, 3));
        due.is("the byte ahead", 2, () -> s.packByte(0, 2));
        due.is("the byte behind", 4, () -> s.packByte(0, 4));
        due.is("the block's own byte", 3, () -> s.byteAt(0, 0));
        due.is("the other pack", 1, () -> s.packByte(1, 1));
        s.poke(0, 3, 0b101);
        due.is("and back", 3, () -> s.packByte(0, 3));
        s.poke(0, 3, 255);
        due.is("all bits", 252, () -> s.packByte(0, 3));
    }

    @Sentence(of = "Promise 12", words = "Byte i of a PACK becomes what it is, exclusive or mask")
    static void promise12_theFirstAndTheLastByte(Due due) {
        BoardStore s = twoPacks();
        long sum = Stores.sum(1, 1, 0);
        s.poke(1, 0, 128);
        due.is("the first", 129, () -> s.packByte(1, 0));
        s.poke(1, 6, 128);
        due.is("the last", Stores.byteOfSum(sum, 3) ^ 128, () -> s.packByte(1, 6));
        due.is("the first pack's last byte", Stores.byteOfSum(Stores.sum(1, 0, 2, 3, 4), 3), () -> s.packByte(0, 8));
    }

    @Sentence(of = "Promise 12", words = "(its lowest 8 bits)")
    static void promise12_onlyTheMasksLowest8Bits(Due due) {
        BoardStore s = twoPacks();
        s.poke(0, 3, 0x1FF);
        due.is("mask 0x1FF", 252, () -> s.packByte(0, 3));
        s.poke(0, 3, -1);
        due.is("mask -1", 3, () -> s.packByte(0, 3));
        s.poke(0, 3, 0xFFFFFF01);
        due.is("mask 0xFFFFFF01", 2, () -> s.packByte(0, 3));
        s.poke(0, 3, Integer.MAX_VALUE);
        due.is("mask 0x7FFFFFFF", 253, () -> s.packByte(0, 3));
    }

    @Sentence(of = "Promise 12", words = "whether it is another one")
    static void promise12_whetherItIsAnotherOne(Due due) {
        BoardStore s = twoPacks();
        for (int mask : new int[] {1, 128, 255, 257, -1, Integer.MAX_VALUE}) {
            due.is("mask " + mask, true, () -> s.poke(0, 3, mask));
        }
        int now = s.packByte(0, 3);
        for (int mask : new int[] {0, 256, -256, 0x7FFFFF00, Integer.MIN_VALUE}) {
            due.is("mask " + mask, false, () -> s.poke(0, 3, mask));
            due.is("the byte", now, () -> s.packByte(0, 3));
        }
    }

    @Sentence(of = "Promise 12", words = "IndexOutOfBoundsException, when there is no such PACK")
    static void promise12_noSuchPack(Due due) {
        BoardStore s = twoPacks();
        due.is("the last", true, () -> s.poke(1, 0, 1));
        for (int bad : new int[] {2, 7, 8, 9}) {
            due.badIndex("poke(" + bad + ", 0, 1)", () -> s.poke(bad, 0, 1));
        }
        for (int bad : Stores.FAR_OUT) {
            due.badIndex("poke(" + bad + ", 0, 1)", () -> s.poke(bad, 0, 1));
        }
        BoardStore none = new BoardStore(8);
        due.badIndex("no pack yet", () -> none.poke(0, 0, 0));
    }

    @Sentence(of = "Promise 12", words = "or byte")
    static void promise12_noSuchByte(Due due) {
        BoardStore s = twoPacks();
        for (int bad : new int[] {9, 10, 16}) {
            due.badIndex("poke(0, " + bad + ", 1)", () -> s.poke(0, bad, 1));
        }
        due.badIndex("poke(1, 7, 1)", () -> s.poke(1, 7, 1));
        due.badIndex("with a mask of no bit, too", () -> s.poke(0, 9, 0));
        for (int bad : Stores.FAR_OUT) {
            due.badIndex("poke(1, " + bad + ", 1)", () -> s.poke(1, bad, 1));
        }
        due.is("nothing was altered", -1, s::badAt);
    }

    @Sentence(of = "Promise 12", words = "or byte")
    static void promise12_anAlteredLengthMakesNoMoreBytes(Due due) {
        BoardStore s = twoPacks();
        s.poke(0, 2, 255);
        s.poke(0, 0, 255);
        due.is("the last byte", true, () -> s.poke(0, 8, 1));
        due.badIndex("behind it", () -> s.poke(0, 9, 1));
    }

    @Sentence(of = "Promise 12", words = "IllegalStateException, ahead of it.")
    static void promise12_refusedWhenItCrashedAheadOfAWrongIndex(Due due) {
        BoardStore s = Stores.crashed();
        due.badState("poke(0, 0, 1)", () -> s.poke(0, 0, 1));
        due.badState("poke(-1, 0, 1)", () -> s.poke(-1, 0, 1));
        due.badState("poke(0, 99, 0)", () -> s.poke(0, 99, 0));
    }

    @Sentence(of = "Promise 13", words = "The first PACK whose last four bytes are not the SUM of those ahead")
    static void promise13_everyBitOfAPackTells(Due due) {
        for (int i = 0; i < 9; i++) {
            BoardStore s = twoPacks();
            int at = i;
            for (int bit = 1; bit < 256; bit *= 2) {
                s.poke(0, at, bit);
                due.is("byte " + i + ", bit " + bit, 0, s::badAt);
                s.poke(0, at, bit);
                due.is("mended", -1, s::badAt);
            }
        }
    }

    @Sentence(of = "Promise 13", words = "The first PACK whose last four bytes are not the SUM of those ahead")
    static void promise13_theFirstOfSeveral(Due due) {
        BoardStore s = new BoardStore(8);
        for (int p = 0; p < 8; p++) {
            Stores.put(s, p);
            s.pack();
        }
        for (int p = 7; p >= 0; p--) {
            s.poke(p, p, 64);
            due.is("packs " + p + " to 7 are bad", p, s::badAt);
        }
        s.poke(0, 0, 64);
        due.is("pack 0 is mended", 1, s::badAt);
    }

    @Sentence(of = "Promise 13", words = "The first PACK whose last four bytes are not the SUM of those ahead")
    static void promise13_aSumThatIsMadeRightAgainIsNotBad(Due due) {
        BoardStore s = twoPacks();
        s.poke(0, 3, 1);
        due.is("a byte is altered", 0, s::badAt);
        long sum = Stores.sum(1, 0, 2, 3, 4);
        long other = Stores.sum(1, 0, 2, 2, 4);
        for (int i = 0; i < 4; i++) {
            s.poke(0, 5 + i, Stores.byteOfSum(sum, i) ^ Stores.byteOfSum(other, i));
        }
        due.is("the sum is, too", -1, s::badAt);
    }

    @Sentence(of = "Promise 13", words = "The first PACK whose last four bytes are not the SUM of those ahead")
    static void promise13_anAlteredPackIsBadThoughItsBlocksAreSwept(Due due) {
        BoardStore s = twoPacks();
        s.version();
        s.drop(0);
        s.sweep();
        due.is("the swept blocks' packs are good", -1, s::badAt);
        s.poke(1, 2, 1);
        due.is("and bad when altered", 1, s::badAt);
    }

    @Sentence(of = "Promise 13", words = "NONE")
    static void promise13_noneWhenThereIsNoBadPack(Due due) {
        BoardStore s = new BoardStore(2);
        due.is("no pack", -1, s::badAt);
        s.block();
        s.pack();
        due.is("a pack of an empty block", -1, s::badAt);
        s.poke(0, 0, 256);
        due.is("a mask of no bit", -1, s::badAt);
        BoardStore all = Stores.withAllBlocks(1);
        all.pack();
        due.is("a pack of all blocks", -1, all::badAt);
    }

    @Sentence(of = "Promise 13", words = "IllegalStateException likewise.")
    static void promise13_refusedWhenItCrashed(Due due) {
        BoardStore s = Stores.crashed();
        due.badState("badAt()", s::badAt);
        s.reopen();
        due.is("behind reopen()", -1, s::badAt);
    }

    @Sentence(of = "Promise 14", words = "Byte i of a PACK.")
    static void promise14_theBytesOfAPack(Due due) {
        BoardStore s = twoPacks();
        Stores.packIs(due, s, 0, 1, 0, 2, 3, 4);
        Stores.packIs(due, s, 1, 1, 1, 0);
    }

    @Sentence(of = "Promise 14", words = "Byte i of a PACK.")
    static void promise14_aPackKeepsItsBytesWhenItsBlocksAreSwept(Due due) {
        BoardStore s = twoPacks();
        s.version();
        s.drop(0);
        due.is("sweep()", 2, s::sweep);
        Stores.packIs(due, s, 0, 1, 0, 2, 3, 4);
    }

    @Sentence(of = "Promise 14", words = "Byte i of a PACK.")
    static void promise14_aByteIs0To255(Due due) {
        BoardStore s = new BoardStore(1);
        Stores.put(s, 255, 128, 0);
        s.pack();
        Stores.packIs(due, s, 0, 1, 0, 3, 255, 128, 0);
    }

    @Sentence(of = "Promise 14", words = "IndexOutOfBoundsException, when there is no such PACK")
    static void promise14_noSuchPack(Due due) {
        BoardStore s = twoPacks();
        due.is("the last", 1, () -> s.packByte(1, 0));
        for (int bad : new int[] {2, 7, 8, 9}) {
            due.badIndex("packByte(" + bad + ", 0)", () -> s.packByte(bad, 0));
        }
        for (int bad : Stores.FAR_OUT) {
            due.badIndex("packByte(" + bad + ", 0)", () -> s.packByte(bad, 0));
        }
        BoardStore eight = new BoardStore(8);
        for (int p = 0; p < 8; p++) {
            Stores.put(eight, p);
            eight.pack();
        }
        due.is("pack 7", 7, () -> eight.packByte(7, 1));
        due.badIndex("pack 8", () -> eight.packByte(8, 0));
    }

    @Sentence(of = "Promise 14", words = "or byte")
    static void promise14_noSuchByte(Due due) {
        BoardStore s = twoPacks();
        for (int bad : new int[] {9, 10, 16}) {
            due.badIndex("packByte(0, " + bad + ")", () -> s.packByte(0, bad));
        }
        due.badIndex("packByte(1, 7)", () -> s.packByte(1, 7));
        for (int bad : Stores.FAR_OUT) {
            due.badIndex("packByte(1, " + bad + ")", () -> s.packByte(1, bad));
        }
    }

    @Sentence(of = "Promise 14", words = "IllegalStateException, ahead of it.")
    static void promise14_refusedWhenItCrashedAheadOfAWrongIndex(Due due) {
        BoardStore s = Stores.crashed();
        due.badState("packByte(0, 0)", () -> s.packByte(0, 0));
        due.badState("packByte(-1, 0)", () -> s.packByte(-1, 0));
        due.badState("packByte(0, 99)", () -> s.packByte(0, 99));
    }
}
