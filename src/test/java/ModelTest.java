import java.math.BigInteger;
import java.util.ArrayList;
import java.util.Arrays;
import java.util.List;
import java.util.Random;

/** Long runs of calls, the same ones each time, compared with a plain model that is written from the document. */
public final class ModelTest {
    private static final int CALLS_OF_A_RUN = 512;
    private static final int RUNS_OF_A_KIND = 400;

    /** How often each call comes, in the order of Call; the kinds of runs press on different limits. */
    private static final int[][] KINDS = {
        {40, 20, 6, 6, 4, 4, 4, 6, 2, 2, 6, 4, 6, 4, 6, 4},
        {150, 30, 6, 4, 4, 2, 4, 4, 1, 2, 4, 4, 4, 4, 4, 3},
        {10, 40, 20, 6, 6, 10, 6, 6, 0, 2, 4, 4, 4, 4, 6, 12},
        {30, 30, 8, 2, 2, 8, 12, 2, 12, 14, 8, 8, 8, 2, 2, 8},
        {8, 6, 6, 20, 10, 2, 6, 20, 1, 2, 20, 10, 20, 20, 20, 2},
        // The log is full some hundred calls ahead of the run's end.
        {300, 18, 6, 1, 1, 80, 1, 1, 0, 0, 1, 1, 1, 1, 1, 4},
    };

    private enum Call { FEED, BLOCK, VERSION, HOLDS, ROOT, SWEEP, PACK, BYTE_AT, CRASH, REOPEN, POKE, BAD_AT,
        PACK_BYTE, DIGEST, OUT, DROP }

    public static void main(String[] args) {
        Due due = new Due("ModelTest");
        for (int kind = 0; kind < KINDS.length; kind++) {
            for (int run = 0; run < RUNS_OF_A_KIND; run++) {
                oneRun(due, kind, run);
            }
        }
        due.end();
    }

    private static void oneRun(Due due, int kind, int run) {
        Random random = new Random(1000L * kind + run);
        int packs = random.nextInt(12) - 1;
        BoardStore store = new BoardStore(packs);
        Model model = new Model(packs);
        due.part("kind " + kind + ", run " + run);
        // Few different bytes make equal blocks likely.
        int alphabet = random.nextBoolean() ? 2 : 256;
        for (int n = 0; n < CALLS_OF_A_RUN; n++) {
            // A crashed store is mostly opened again, or the run would answer exceptions alone.
            Call call = model.crashed && random.nextInt(3) > 0 ? Call.REOPEN : pick(random, KINDS[kind]);
            int a = argument(random, call, alphabet, model, false);
            int b = argument(random, call, alphabet, model, true);
            int c = random.nextInt(10) == 0 ? 256 * random.nextInt(3) : random.nextInt();
            boolean same = due.same("call " + n + ", " + call + "(" + a + ", " + b + ", " + c + ")",
                    Due.answer(() -> ask(model, call, a, b, c)), Due.answer(() -> ask(store, call, a, b, c)));
            if (!same) {
                // Behind the first difference the two states differ, and what follows tells nothing new.
                return;
            }
        }
    }

    private static Call pick(Random random, int[] weights) {
        int left = random.nextInt(Arrays.stream(weights).sum());
        int k = 0;
        while (left >= weights[k]) {
            left -= weights[k];
            k++;
        }
        return Call.values()[k];
    }

    private static int argument(Random random, Call call, int alphabet, Model model, boolean second) {
        if (random.nextInt(60) == 0) {
            return random.nextBoolean() ? Integer.MAX_VALUE : Integer.MIN_VALUE;
        }
        int reach = reach(call, alphabet, model, second);
        return random.nextInt(reach + 3) - 1;
    }

    private static int reach(Call call, int alphabet, Model model, boolean second) {
        switch (call) {
            case FEED:
                return alphabet;
            case CRASH:
                return model.log.size();
            case HOLDS:
                return second ? model.blocks.size() : model.versions.size();
            case ROOT:
            case DROP:
                return model.versions.size();
            case OUT:
                return second ? 60 : model.versions.size();
            case BYTE_AT:
                return second ? 24 : model.blocks.size();
            case DIGEST:
                return second ? 4 : model.blocks.size();
            case POKE:
            case PACK_BYTE:
                return second ? 40 : model.packs.size();
            default:
                return 1;
        }
    }

    private static Object ask(BoardStore s, Call call, int a, int b, int c) {
        switch (call) {
            case FEED: return s.feed(a);
            case BLOCK: return s.block();
            case VERSION: return s.version();
            case HOLDS: return s.holds(a, b);
            case ROOT: return s.root(a);
            case SWEEP: return s.sweep();
            case PACK: return s.pack();
            case BYTE_AT: return s.byteAt(a, b);
            case CRASH: return s.crash(a);
            case REOPEN: return s.reopen();
            case POKE: return s.poke(a, b, c);
            case BAD_AT: return s.badAt();
            case PACK_BYTE: return s.packByte(a, b);
            case DIGEST: return s.digest(a, b);
            case OUT: return s.out(a, b);
            default: return s.drop(a);
        }
    }

    private static Object ask(Model m, Call call, int a, int b, int c) {
        if (call != Call.REOPEN && m.crashed || call == Call.REOPEN && !m.crashed) {
            throw new IllegalStateException();
        }
        switch (call) {
            case FEED: return m.feed(a);
            case BLOCK: return m.block();
            case VERSION: return m.version();
            case HOLDS: return m.holds(a, b);
            case ROOT: return Model.sum(m.bytesOf(m.version(a)));
            case SWEEP: return m.sweep();
            case PACK: return m.pack();
            case BYTE_AT: return m.byteAt(a, b);
            case CRASH: return m.crash(a);
            case REOPEN: return m.reopen();
            case POKE: return m.poke(a, b, c);
            case BAD_AT: return m.badAt();
            case PACK_BYTE: return m.packByte(a, b);
            case DIGEST: return m.digest(a, b);
            case OUT: return m.out(a, b);
            default: return m.drop(a);
        }
    }

    /** Lists of lists; a swept block and a dropped version are null in them. */
    private static final class Model {
        final int mostPacks;
        List<Integer> log = new ArrayList<>();
        List<Integer> fed = new ArrayList<>();
        List<List<Integer>> blocks = new ArrayList<>();
        List<Integer> open = new ArrayList<>();
        List<List<Integer>> versions = new ArrayList<>();
        List<List<Integer>> packs = new ArrayList<>();
        List<Integer> inPacks = new ArrayList<>();
        boolean crashed = false;

        Model(int packs) {
            mostPacks = packs < 1 ? 1 : packs > 8 ? 8 : packs;
        }

        static int sum(List<Integer> bytes) {
            BigInteger all = BigInteger.ONE.shiftLeft(32);
            BigInteger s = BigInteger.ONE;
            for (int b : bytes) {
                BigInteger x = s.xor(BigInteger.valueOf(b)).shiftLeft(31);
                BigInteger turned = x.mod(all).add(x.divide(all));
                s = turned.multiply(BigInteger.valueOf(0xC2B2AE35L)).mod(all);
            }
            return s.intValue();
        }

        static List<Integer> sumBytes(List<Integer> bytes) {
            long s = sum(bytes) & 0xFFFFFFFFL;
            return List.of((int) (s / 16777216), (int) (s / 65536 % 256), (int) (s / 256 % 256), (int) (s % 256));
        }

        static <T> T inside(List<T> list, int i) {
            if (i < 0 || i >= list.size()) {
                throw new IndexOutOfBoundsException();
            }
            return list.get(i);
        }

        List<Integer> version(int v) {
            List<Integer> version = inside(versions, v);
            return version == null ? List.of() : version;
        }

        List<Integer> bytesOf(List<Integer> version) {
            List<Integer> bytes = new ArrayList<>();
            version.forEach(b -> bytes.addAll(blocks.get(b)));
            return bytes;
        }

        boolean write(Integer... record) {
            return log.size() + record.length <= 400 && log.addAll(Arrays.asList(record));
        }

        boolean feed(int b) {
            return b >= 0 && b <= 255 && fed.size() < 24 && fed.add(b);
        }

        int block() {
            int number = blocks.indexOf(fed);
            if (open.size() == 8 || number < 0 && blocks.size() == 24) {
                return -1;
            }
            List<Integer> record = new ArrayList<>(number < 0 ? List.of(1, fed.size()) : List.of(2, number));
            if (number < 0) {
                record.addAll(fed);
            }
            if (!write(record.toArray(new Integer[0]))) {
                return -1;
            }
            if (number < 0) {
                blocks.add(fed);
                number = blocks.size() - 1;
            }
            fed = new ArrayList<>();
            open.add(number);
            return number;
        }

        int version() {
            if (versions.size() == 12 || !write(3)) {
                return -1;
            }
            versions.add(open);
            open = new ArrayList<>();
            return versions.size() - 1;
        }

        boolean holds(int v, int b) {
            inside(blocks, b);
            return version(v).contains(b);
        }

        int sweep() {
            if (!write(5)) {
                return 0;
            }
            int gone = 0;
            for (int b = 0; b < blocks.size(); b++) {
                int block = b;
                boolean held = open.contains(b) || versions.stream().anyMatch(v -> v != null && v.contains(block));
                if (!held && blocks.get(b) != null) {
                    blocks.set(b, null);
                    gone++;
                }
            }
            return gone;
        }

        int pack() {
            List<Integer> bytes = new ArrayList<>();
            List<Integer> numbers = new ArrayList<>();
            for (int b = 0; b < blocks.size(); b++) {
                if (blocks.get(b) != null && !inPacks.contains(b)) {
                    numbers.add(b);
                    bytes.add(b);
                    bytes.add(blocks.get(b).size());
                    bytes.addAll(blocks.get(b));
                }
            }
            if (numbers.isEmpty() || packs.size() == mostPacks) {
                return -1;
            }
            bytes.add(0, numbers.size());
            bytes.addAll(sumBytes(bytes));
            packs.add(bytes);
            inPacks.addAll(numbers);
            return mostPacks - packs.size();
        }

        int orNone(List<Integer> bytes, int i) {
            if (i < 0) {
                throw new IndexOutOfBoundsException();
            }
            return bytes == null || i >= bytes.size() ? -1 : bytes.get(i);
        }

        int byteAt(int b, int i) {
            return orNone(inside(blocks, b), i);
        }

        int out(int v, int i) {
            return orNone(bytesOf(version(v)), i);
        }

        boolean crash(int kept) {
            if (kept < 0 || kept > log.size()) {
                throw new IllegalArgumentException();
            }
            boolean more = kept < log.size();
            log = new ArrayList<>(log.subList(0, kept));
            crashed = true;
            return more;
        }

        /** Makes the calls again on a new model, which writes its own log. */
        int reopen() {
            Model anew = new Model(mostPacks);
            List<Integer> left = log;
            while (!left.isEmpty()) {
                int kind = left.get(0);
                int length = kind == 3 || kind == 5 ? 1 : kind != 1 || left.size() < 2 ? 2 : 2 + left.get(1);
                if (left.size() < length) {
                    break;
                }
                anew.redo(left.subList(0, length));
                left = left.subList(length, left.size());
            }
            log = anew.log;
            fed = new ArrayList<>();
            blocks = anew.blocks;
            open = anew.open;
            versions = anew.versions;
            packs = new ArrayList<>();
            inPacks = new ArrayList<>();
            crashed = false;
            return versions.size();
        }

        private void redo(List<Integer> record) {
            switch (record.get(0)) {
                case 1:
                    record.subList(2, record.size()).forEach(this::feed);
                    block();
                    break;
                case 2:
                    blocks.get(record.get(1)).forEach(this::feed);
                    block();
                    break;
                case 3:
                    version();
                    break;
                case 4:
                    drop(record.get(1));
                    break;
                default:
                    sweep();
                    break;
            }
        }

        boolean poke(int p, int i, int mask) {
            int old = packByte(p, i);
            packs.get(p).set(i, old ^ Math.floorMod(mask, 256));
            return packs.get(p).get(i) != old;
        }

        int packByte(int p, int i) {
            return inside(inside(packs, p), i);
        }

        int badAt() {
            for (int p = 0; p < packs.size(); p++) {
                List<Integer> bytes = packs.get(p);
                int ahead = bytes.size() - 4;
                if (!sumBytes(bytes.subList(0, ahead)).equals(bytes.subList(ahead, ahead + 4))) {
                    return p;
                }
            }
            return -1;
        }

        int digest(int b, int i) {
            List<Integer> bytes = inside(blocks, b);
            int answer = inside(sumBytes(bytes == null ? List.of() : bytes), i);
            return bytes == null ? -1 : answer;
        }

        boolean drop(int v) {
            if (inside(versions, v) == null || !write(4, v)) {
                return false;
            }
            versions.set(v, null);
            return true;
        }
    }
}
