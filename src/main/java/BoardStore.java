/**
 * A store of versions made of blocks of bytes, with a log from which all comes back.
 *
 * All room is made once, in the constructor; no later call makes an object but an exception.
 */
public final class BoardStore {
    public static final int NONE = -1;

    private static final int MOST_BLOCKS = 24;
    private static final int MOST_BYTES_OF_BLOCK = 24;
    private static final int MOST_VERSIONS = 12;
    private static final int MOST_BLOCKS_OF_VERSION = 8;
    private static final int MOST_PACKS = 8;
    private static final int MOST_BYTES_OF_LOG = 400;

    private static final int SUM_AT_FIRST = 1;
    private static final int SUM_FACTOR = 0xC2B2AE35;
    private static final int BYTES_OF_SUM = 4;

    // One more than may be closed, for the open one behind them.
    private static final int ROOM_OF_BLOCKS = (MOST_BLOCKS + 1) * MOST_BYTES_OF_BLOCK;
    private static final int ROOM_OF_VERSIONS = (MOST_VERSIONS + 1) * MOST_BLOCKS_OF_VERSION;
    // No block is in two packs, so all packs together hold each block, its number and its length once at most.
    private static final int ROOM_OF_PACKS =
            MOST_BLOCKS * (2 + MOST_BYTES_OF_BLOCK) + MOST_PACKS * (1 + BYTES_OF_SUM);

    private static final int RECORD_NEW_BLOCK = 1;
    private static final int RECORD_OLD_BLOCK = 2;
    private static final int RECORD_CLOSED = 3;
    private static final int RECORD_DROPPED = 4;
    private static final int RECORD_SWEPT = 5;

    private final Log log;
    // The open piece of the blocks is what was fed.
    private final Pieces blocks;
    private final Marks there;
    private final Marks packed;
    // Only a sweep uses it; made once so that no sweep makes a row.
    private final Marks held;
    // The open piece of the versions is the open version; it has no number that a caller may use.
    private final Pieces versions;
    private final Marks dropped;
    private final Pieces packs;
    private boolean crashed;

    public BoardStore(int packs) {
        this.log = new Log();
        this.blocks = new Pieces(MOST_BLOCKS, ROOM_OF_BLOCKS);
        this.there = new Marks(MOST_BLOCKS);
        this.packed = new Marks(MOST_BLOCKS);
        this.held = new Marks(MOST_BLOCKS);
        this.versions = new Pieces(MOST_VERSIONS, ROOM_OF_VERSIONS);
        this.dropped = new Marks(MOST_VERSIONS);
        this.packs = new Pieces(Math.max(1, Math.min(MOST_PACKS, packs)), ROOM_OF_PACKS);
        this.crashed = false;
    }

    public boolean feed(int b) throws IllegalStateException {
        requireRunning();
        if (b < 0 || b > 255 || blocks.openLength() >= MOST_BYTES_OF_BLOCK) {
            return false;
        }
        blocks.add(b);
        return true;
    }

    public int block() throws IllegalStateException {
        requireRunning();
        if (versions.openLength() >= MOST_BLOCKS_OF_VERSION) {
            return NONE;
        }
        int old = equalOfFed();
        return old == NONE ? takeNewBlock() : takeOldBlock(old);
    }

    public int version() throws IllegalStateException {
        requireRunning();
        if (versions.isFull() || !log.hasRoom(1)) {
            return NONE;
        }
        log.add(RECORD_CLOSED);
        return versions.close();
    }

    public boolean holds(int version, int block) throws IndexOutOfBoundsException, IllegalStateException {
        requireRunning();
        requireVersion(version);
        requireBlock(block);
        return hasBlock(version, block);
    }

    public int root(int version) throws IndexOutOfBoundsException, IllegalStateException {
        requireRunning();
        requireVersion(version);
        int sum = SUM_AT_FIRST;
        int length = lengthOfVersion(version);
        for (int k = 0; k < length; k++) {
            int block = versions.at(version, k);
            sum = blocks.sum(sum, block, blocks.length(block));
        }
        return sum;
    }

    public int sweep() throws IllegalStateException {
        requireRunning();
        if (!log.hasRoom(1)) {
            return 0;
        }
        log.add(RECORD_SWEPT);
        return removeUnheldBlocks();
    }

    public int pack() throws IllegalStateException {
        requireRunning();
        int many = countUnpacked();
        if (many == 0 || packs.isFull()) {
            return NONE;
        }
        packs.add(many);
        for (int block = 0; block < blocks.count(); block++) {
            if (isUnpacked(block)) {
                addToOpenPack(block);
            }
        }
        closePack();
        return packs.stillFree();
    }

    public int byteAt(int block, int i) throws IndexOutOfBoundsException, IllegalStateException {
        requireRunning();
        requireBlock(block);
        requireNotNegative(i);
        return there.isOn(block) ? blocks.at(block, i) : NONE;
    }

    public boolean crash(int kept) throws IllegalArgumentException, IllegalStateException {
        requireRunning();
        requireKeepable(kept);
        boolean hadMore = log.length() > kept;
        log.cutTo(kept);
        forgetAllButLog();
        crashed = true;
        return hadMore;
    }

    public int reopen() throws IllegalStateException {
        requireCrashed();
        int position = 0;
        // A record has a byte at least, so there are no more records than bytes.
        for (int n = 0; n < MOST_BYTES_OF_LOG; n++) {
            int length = log.lengthOfRecord(position);
            if (length == 0) {
                break;
            }
            redo(position);
            position += length;
        }
        log.cutTo(position);
        crashed = false;
        return versions.count();
    }

    public boolean poke(int pack, int i, int mask) throws IndexOutOfBoundsException, IllegalStateException {
        requireRunning();
        requireByteOfPack(pack, i);
        int old = packs.at(pack, i);
        int altered = old ^ (mask & 255);
        packs.put(pack, i, altered);
        return altered != old;
    }

    public int badAt() throws IllegalStateException {
        requireRunning();
        for (int pack = 0; pack < packs.count(); pack++) {
            if (isBad(pack)) {
                return pack;
            }
        }
        return NONE;
    }

    public int packByte(int pack, int i) throws IndexOutOfBoundsException, IllegalStateException {
        requireRunning();
        requireByteOfPack(pack, i);
        return packs.at(pack, i);
    }

    public int digest(int block, int i) throws IndexOutOfBoundsException, IllegalStateException {
        requireRunning();
        requireBlock(block);
        requireByteOfSum(i);
        if (!there.isOn(block)) {
            return NONE;
        }
        return byteOfSum(blocks.sum(SUM_AT_FIRST, block, blocks.length(block)), i);
    }

    public int out(int version, int i) throws IndexOutOfBoundsException, IllegalStateException {
        requireRunning();
        requireVersion(version);
        requireNotNegative(i);
        int left = i;
        int length = lengthOfVersion(version);
        for (int k = 0; k < length; k++) {
            int block = versions.at(version, k);
            if (left < blocks.length(block)) {
                return blocks.at(block, left);
            }
            left -= blocks.length(block);
        }
        return NONE;
    }

    public boolean drop(int version) throws IndexOutOfBoundsException, IllegalStateException {
        requireRunning();
        requireVersion(version);
        if (dropped.isOn(version) || !log.hasRoom(2)) {
            return false;
        }
        log.add(RECORD_DROPPED);
        log.add(version);
        dropped.turnOn(version);
        return true;
    }

    private void requireRunning() {
        if (crashed) {
            throw new IllegalStateException("it crashed");
        }
    }

    private void requireCrashed() {
        if (!crashed) {
            throw new IllegalStateException("it did not crash");
        }
    }

    private void requireVersion(int version) {
        if (!versions.has(version)) {
            throw new IndexOutOfBoundsException("no such version");
        }
    }

    private void requireBlock(int block) {
        if (!blocks.has(block)) {
            throw new IndexOutOfBoundsException("no block had that number");
        }
    }

    private void requireByteOfPack(int pack, int i) {
        if (!packs.has(pack) || i < 0 || i >= packs.length(pack)) {
            throw new IndexOutOfBoundsException("no such pack or byte");
        }
    }

    private void requireByteOfSum(int i) {
        if (i < 0 || i >= BYTES_OF_SUM) {
            throw new IndexOutOfBoundsException("no such byte of a sum");
        }
    }

    private void requireNotNegative(int i) {
        if (i < 0) {
            throw new IndexOutOfBoundsException("a byte's index is below 0");
        }
    }

    private void requireKeepable(int kept) {
        if (kept < 0 || kept > log.length()) {
            throw new IllegalArgumentException("the log does not have so many bytes");
        }
    }

    private int equalOfFed() {
        for (int block = 0; block < blocks.count(); block++) {
            if (there.isOn(block) && blocks.equalsOpen(block)) {
                return block;
            }
        }
        return NONE;
    }

    private int takeNewBlock() {
        int length = blocks.openLength();
        if (blocks.isFull() || !log.hasRoom(2 + length)) {
            return NONE;
        }
        log.add(RECORD_NEW_BLOCK);
        log.add(length);
        for (int i = 0; i < length; i++) {
            log.add(blocks.openAt(i));
        }
        return closeFed();
    }

    private int takeOldBlock(int block) {
        if (!log.hasRoom(2)) {
            return NONE;
        }
        log.add(RECORD_OLD_BLOCK);
        log.add(block);
        blocks.clearOpen();
        versions.add(block);
        return block;
    }

    private int closeFed() {
        int block = blocks.close();
        there.turnOn(block);
        versions.add(block);
        return block;
    }

    private int removeUnheldBlocks() {
        markHeldBlocks();
        int gone = 0;
        for (int block = 0; block < blocks.count(); block++) {
            if (there.isOn(block) && !held.isOn(block)) {
                there.turnOff(block);
                gone++;
            }
        }
        return gone;
    }

    private void markHeldBlocks() {
        held.clear();
        // Up to the count itself: the open version holds its blocks, too.
        for (int version = 0; version <= versions.count(); version++) {
            int length = lengthOfVersion(version);
            for (int k = 0; k < length; k++) {
                held.turnOn(versions.at(version, k));
            }
        }
    }

    private boolean hasBlock(int version, int block) {
        int length = lengthOfVersion(version);
        for (int k = 0; k < length; k++) {
            if (versions.at(version, k) == block) {
                return true;
            }
        }
        return false;
    }

    private int lengthOfVersion(int version) {
        return dropped.isOn(version) ? 0 : versions.length(version);
    }

    private boolean isUnpacked(int block) {
        return there.isOn(block) && !packed.isOn(block);
    }

    private int countUnpacked() {
        int many = 0;
        for (int block = 0; block < blocks.count(); block++) {
            if (isUnpacked(block)) {
                many++;
            }
        }
        return many;
    }

    private void addToOpenPack(int block) {
        int length = blocks.length(block);
        packs.add(block);
        packs.add(length);
        for (int i = 0; i < length; i++) {
            packs.add(blocks.at(block, i));
        }
        packed.turnOn(block);
    }

    private void closePack() {
        int sum = packs.sum(SUM_AT_FIRST, packs.count(), packs.openLength());
        for (int i = 0; i < BYTES_OF_SUM; i++) {
            packs.add(byteOfSum(sum, i));
        }
        packs.close();
    }

    private boolean isBad(int pack) {
        int ahead = packs.length(pack) - BYTES_OF_SUM;
        int sum = packs.sum(SUM_AT_FIRST, pack, ahead);
        for (int i = 0; i < BYTES_OF_SUM; i++) {
            if (packs.at(pack, ahead + i) != byteOfSum(sum, i)) {
                return true;
            }
        }
        return false;
    }

    private void forgetAllButLog() {
        blocks.clear();
        there.clear();
        packed.clear();
        versions.clear();
        dropped.clear();
        packs.clear();
    }

    private void redo(int position) {
        switch (log.at(position)) {
            case RECORD_NEW_BLOCK:
                redoNewBlock(position);
                break;
            case RECORD_OLD_BLOCK:
                versions.add(log.at(position + 1));
                break;
            case RECORD_CLOSED:
                versions.close();
                break;
            case RECORD_DROPPED:
                dropped.turnOn(log.at(position + 1));
                break;
            case RECORD_SWEPT:
                removeUnheldBlocks();
                break;
            default:
                break;
        }
    }

    private void redoNewBlock(int position) {
        int length = log.at(position + 1);
        for (int i = 0; i < length; i++) {
            blocks.add(log.at(position + 2 + i));
        }
        closeFed();
    }

    private static int nextSum(int sum, int b) {
        int mixed = sum ^ b;
        return ((mixed << 31) | (mixed >>> 1)) * SUM_FACTOR;
    }

    private static int byteOfSum(int sum, int i) {
        return (sum >>> (24 - 8 * i)) & 255;
    }

    /** The log's bytes, and where its records end. */
    private static final class Log {
        private final int[] bytes = new int[MOST_BYTES_OF_LOG];
        private int size = 0;

        int length() {
            return size;
        }

        boolean hasRoom(int more) {
            return more <= bytes.length - size;
        }

        void add(int b) {
            if (size >= 0 && size < bytes.length) {
                bytes[size] = b;
                size++;
            }
        }

        int at(int i) {
            return i >= 0 && i < size && i < bytes.length ? bytes[i] : NONE;
        }

        void cutTo(int kept) {
            if (kept >= 0 && kept < size) {
                size = kept;
            }
        }

        /** 0 when no whole record begins there. */
        int lengthOfRecord(int position) {
            int length = lengthByKind(position);
            return length <= size - position ? length : 0;
        }

        private int lengthByKind(int position) {
            switch (at(position)) {
                case RECORD_NEW_BLOCK:
                    // Where the cut took the length byte, NONE must not make the record look shorter than its two.
                    return 2 + Math.max(0, at(position + 1));
                case RECORD_OLD_BLOCK:
                case RECORD_DROPPED:
                    return 2;
                case RECORD_CLOSED:
                case RECORD_SWEPT:
                    return 1;
                default:
                    return 0;
            }
        }
    }

    /** Numbered pieces of one row of numbers; behind the closed ones lies the open one, which still grows. */
    private static final class Pieces {
        private final int[] items;
        // One more than may be closed, for the open one.
        private final int[] starts;
        private int size = 0;
        private int count = 0;

        Pieces(int most, int room) {
            this.items = new int[Math.max(0, room)];
            this.starts = new int[Math.max(0, most) + 1];
        }

        int count() {
            return count;
        }

        int stillFree() {
            return starts.length - 1 - count;
        }

        boolean isFull() {
            return stillFree() <= 0;
        }

        boolean has(int piece) {
            return piece >= 0 && piece < count;
        }

        int length(int piece) {
            if (piece < 0 || piece > count || piece >= starts.length) {
                return 0;
            }
            int end = piece < count && piece + 1 < starts.length ? starts[piece + 1] : size;
            return end - starts[piece];
        }

        int at(int piece, int i) {
            if (piece < 0 || piece >= starts.length || i < 0 || i >= length(piece)) {
                return NONE;
            }
            int place = starts[piece] + i;
            return place >= 0 && place < items.length ? items[place] : NONE;
        }

        void put(int piece, int i, int item) {
            if (piece < 0 || piece >= starts.length || i < 0 || i >= length(piece)) {
                return;
            }
            int place = starts[piece] + i;
            if (place >= 0 && place < items.length) {
                items[place] = item;
            }
        }

        int openLength() {
            return length(count);
        }

        int openAt(int i) {
            return at(count, i);
        }

        void add(int item) {
            if (size >= 0 && size < items.length) {
                items[size] = item;
                size++;
            }
        }

        /** The number of the piece that was open; NONE, and it stays open, when no more may be closed. */
        int close() {
            if (count < 0 || count >= starts.length - 1) {
                return NONE;
            }
            count++;
            starts[count] = size;
            return count - 1;
        }

        void clearOpen() {
            size -= openLength();
        }

        void clear() {
            size = 0;
            count = 0;
        }

        boolean equalsOpen(int piece) {
            int length = openLength();
            if (length(piece) != length) {
                return false;
            }
            for (int i = 0; i < length; i++) {
                if (at(piece, i) != openAt(i)) {
                    return false;
                }
            }
            return true;
        }

        /** The sum that the first numbers of a piece make of one that was there ahead of them. */
        int sum(int ahead, int piece, int length) {
            int sum = ahead;
            int end = Math.min(length, length(piece));
            for (int i = 0; i < end; i++) {
                sum = nextSum(sum, at(piece, i));
            }
            return sum;
        }
    }

    /** One mark for each number; a number that has none is never on. */
    private static final class Marks {
        private final boolean[] on;

        Marks(int most) {
            this.on = new boolean[Math.max(0, most)];
        }

        boolean isOn(int i) {
            return i >= 0 && i < on.length && on[i];
        }

        void turnOn(int i) {
            if (i >= 0 && i < on.length) {
                on[i] = true;
            }
        }

        void turnOff(int i) {
            if (i >= 0 && i < on.length) {
                on[i] = false;
            }
        }

        void clear() {
            for (int i = 0; i < on.length; i++) {
                on[i] = false;
            }
        }
    }
}
