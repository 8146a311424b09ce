/**
 * Sectors that can be written again and again on a flash whose pages can be programmed only once
 * until their whole block is erased. The document's promises are kept here; the classes inside
 * hold the flash, which outlives a cut of the power, and the buffer, which does not.
 */
public final class WornFlash {
    public static final int REFUSED = -1, DONE = 0, CUT = 1;
    public static final int NONE = -1;
    public static final int NOTHING = 0, VALUE = 1, TRIMMED = 2;

    private static final int LEAST_BLOCKS = 5, MOST_BLOCKS = 12, USUAL_BLOCKS = 8;
    private static final int LEAST_SPREAD = 1, MOST_SPREAD = 50, USUAL_SPREAD = 4;
    private static final int SPARE_BLOCKS = 3;
    private static final int PAGES = 4;
    private static final int MOST_FUSE = 1000;
    // Two rounds are enough: only a victim taken for its wear can fill the open block.
    private static final int MOST_ROUNDS = 100;

    private final Flash flash;
    private final Buffer buffer;
    private final int spread;
    private int openBlock;

    public WornFlash(int blocks, int spread) {
        boolean blocksFit = blocks >= LEAST_BLOCKS && blocks <= MOST_BLOCKS;
        boolean spreadFits = spread >= LEAST_SPREAD && spread <= MOST_SPREAD;
        this.flash = new Flash(blocksFit ? blocks : USUAL_BLOCKS);
        this.buffer = new Buffer();
        this.spread = spreadFits ? spread : USUAL_SPREAD;
        this.openBlock = NONE;
    }

    public int sectors() {
        return flash.newestPlace.length;
    }

    public int write(int sector, int value) {
        return put(sector, value, VALUE);
    }

    public int trim(int sector) {
        return put(sector, 0, TRIMMED);
    }

    public int flush() {
        for (int left = buffer.count; left > 0; left--) {
            if (!storeFirst()) {
                losePower();
                return CUT;
            }
        }
        return DONE;
    }

    public void cut() {
        losePower();
    }

    public boolean fuse(int n) {
        if (n < 0 || n > MOST_FUSE) {
            return false;
        }
        flash.fuseLeft = n;
        return true;
    }

    public int read(int sector) {
        int entry = buffer.find(sector);
        if (entry != NONE) {
            return buffer.values[entry];
        }
        int place = place(sector);
        return place == NONE ? 0 : flash.values[place];
    }

    public int holds(int sector) {
        int entry = buffer.find(sector);
        if (entry != NONE) {
            return buffer.kinds[entry];
        }
        int place = place(sector);
        return place == NONE ? NOTHING : flash.kinds[place];
    }

    public int buffered() {
        return buffer.count;
    }

    public int place(int sector) {
        return isSector(sector) ? flash.newestPlace[sector] : NONE;
    }

    public int tag(int place) {
        return flash.isProgrammed(place) ? flash.owners[place] : NONE;
    }

    public int serial(int place) {
        return flash.isProgrammed(place) ? flash.serials[place] : NONE;
    }

    public int valid(int block) {
        return flash.isBlock(block) ? flash.countValid(block) : NONE;
    }

    public int erasures(int block) {
        return flash.isBlock(block) ? flash.wear[block] : NONE;
    }

    public int open() {
        return openBlock;
    }

    public int free() {
        return flash.countFree();
    }

    public int operations() {
        return flash.operationsDone;
    }

    private boolean isSector(int sector) {
        return sector >= 0 && sector < flash.newestPlace.length;
    }

    private int put(int sector, int value, int kind) {
        if (!isSector(sector)) {
            return REFUSED;
        }
        int entry = buffer.find(sector);
        if (entry != NONE) {
            buffer.change(entry, value, kind);
            return DONE;
        }
        if (buffer.isFull() && !storeFirst()) {
            losePower();
            return CUT;
        }
        buffer.add(sector, value, kind);
        return DONE;
    }

    /** False when the fuse ended an operation: the caller must cut the power then. */
    private boolean storeFirst() {
        if (!makeRoom()) {
            return false;
        }
        if (!flash.program(openBlock, buffer.sectors[0], buffer.values[0], buffer.kinds[0])) {
            return false;
        }
        buffer.dropFirst();
        return true;
    }

    /** Sees to it that the open block has an erased page; false when the fuse ended an operation. */
    private boolean makeRoom() {
        boolean wearWasReason = false;
        for (int round = 0; round < MOST_ROUNDS && !flash.hasRoom(openBlock); round++) {
            boolean mustCollect = flash.countFree() < 2;
            openBlock = flash.leastWornFree();
            if (mustCollect) {
                boolean forWear = !wearWasReason && flash.wearGap() > spread;
                wearWasReason = wearWasReason || forWear;
                if (!collect(flash.victim(forWear))) {
                    return false;
                }
            }
        }
        return true;
    }

    /** Copies what is valid in the victim into the open block, then erases the victim. */
    private boolean collect(int victim) {
        if (victim == NONE) {
            return false;
        }
        int first = victim * PAGES;
        for (int place = first; place < first + PAGES; place++) {
            if (flash.isValid(place) && !flash.program(openBlock, flash.owners[place],
                    flash.values[place], flash.kinds[place])) {
                return false;
            }
        }
        return flash.erase(victim);
    }

    private void losePower() {
        // The fuse is not set any more once it ended an operation, so the second start is whole.
        if (!startAgain()) {
            startAgain();
        }
    }

    private boolean startAgain() {
        buffer.count = 0;
        openBlock = flash.partlyProgrammed();
        flash.nextSerial = flash.greatestSerial() + 1;
        return flash.countFree() > 0 || collect(flash.victim(false));
    }

    /** The blocks with their pages, how worn they are, and the fuse that counts operations. */
    private static final class Flash {
        private final int blocks;
        private final int[] owners;
        private final int[] values;
        private final int[] kinds;
        private final int[] serials;
        private final int[] programmed;
        private final int[] wear;
        // The newest page has the greatest serial number of its sector. Its block is never erased
        // before the page was copied, so a place that stands here stays good until the next one.
        private final int[] newestPlace;
        private int nextSerial;
        private int operationsDone;
        private int fuseLeft;

        Flash(int blocks) {
            this.blocks = blocks;
            this.owners = new int[blocks * PAGES];
            this.values = new int[blocks * PAGES];
            this.kinds = new int[blocks * PAGES];
            this.serials = new int[blocks * PAGES];
            this.programmed = new int[blocks];
            this.wear = new int[blocks];
            this.newestPlace = new int[(blocks - SPARE_BLOCKS) * PAGES];
            for (int sector = 0; sector < newestPlace.length; sector++) {
                newestPlace[sector] = NONE;
            }
        }

        boolean isBlock(int block) {
            return block >= 0 && block < blocks;
        }

        boolean isProgrammed(int place) {
            return place >= 0 && place < kinds.length && kinds[place] != NOTHING;
        }

        boolean isValid(int place) {
            return kinds[place] != NOTHING && newestPlace[owners[place]] == place;
        }

        boolean hasRoom(int block) {
            return block >= 0 && block < blocks && programmed[block] < PAGES;
        }

        int countValid(int block) {
            int count = 0;
            for (int page = 0; page < PAGES; page++) {
                if (isValid(block * PAGES + page)) {
                    count++;
                }
            }
            return count;
        }

        int countFree() {
            int count = 0;
            for (int block = 0; block < blocks; block++) {
                if (programmed[block] == 0) {
                    count++;
                }
            }
            return count;
        }

        int leastWornFree() {
            int best = NONE;
            for (int block = 0; block < blocks; block++) {
                if (programmed[block] == 0 && (best == NONE || wear[block] < wear[best])) {
                    best = block;
                }
            }
            return best;
        }

        int partlyProgrammed() {
            for (int block = 0; block < blocks; block++) {
                if (programmed[block] > 0 && programmed[block] < PAGES) {
                    return block;
                }
            }
            return NONE;
        }

        int wearGap() {
            int least = wear[0];
            int greatest = wear[0];
            for (int block = 1; block < blocks; block++) {
                least = Math.min(least, wear[block]);
                greatest = Math.max(greatest, wear[block]);
            }
            return greatest - least;
        }

        /** The full block to collect: the least worn, or that with the fewest valid pages. */
        int victim(boolean forWear) {
            int best = NONE;
            int bestValid = 0;
            for (int block = 0; block < blocks; block++) {
                if (programmed[block] < PAGES) {
                    continue;
                }
                // Counted as equal when only wear matters, so that wear alone decides.
                int valid = forWear ? 0 : countValid(block);
                boolean fewer = valid < bestValid;
                boolean lessWorn = best != NONE && valid == bestValid && wear[block] < wear[best];
                if (best == NONE || fewer || lessWorn) {
                    best = block;
                    bestValid = valid;
                }
            }
            return best;
        }

        int greatestSerial() {
            int greatest = NONE;
            for (int place = 0; place < serials.length; place++) {
                if (kinds[place] != NOTHING) {
                    greatest = Math.max(greatest, serials[place]);
                }
            }
            return greatest;
        }

        /** Programs the lowest erased page of a block; false when the fuse ended this. */
        boolean program(int block, int sector, int value, int kind) {
            if (!hasRoom(block) || !beginOperation()) {
                return false;
            }
            int place = block * PAGES + programmed[block];
            programmed[block]++;
            owners[place] = sector;
            values[place] = value;
            kinds[place] = kind;
            serials[place] = nextSerial;
            nextSerial++;
            newestPlace[sector] = place;
            return true;
        }

        /** Erases all pages of a block; false when the fuse ended this. */
        boolean erase(int block) {
            if (!beginOperation()) {
                return false;
            }
            for (int page = 0; page < PAGES; page++) {
                kinds[block * PAGES + page] = NOTHING;
            }
            programmed[block] = 0;
            wear[block]++;
            return true;
        }

        private boolean beginOperation() {
            boolean fuseEnds = fuseLeft == 1;
            if (fuseLeft > 0) {
                fuseLeft--;
            }
            if (!fuseEnds) {
                operationsDone++;
            }
            return !fuseEnds;
        }
    }

    /** What was put and is not stored yet: at most three entries, the oldest first. */
    private static final class Buffer {
        private static final int MOST_ENTRIES = 3;

        private final int[] sectors = new int[MOST_ENTRIES];
        private final int[] values = new int[MOST_ENTRIES];
        private final int[] kinds = new int[MOST_ENTRIES];
        private int count;

        boolean isFull() {
            return count == MOST_ENTRIES;
        }

        int find(int sector) {
            for (int entry = 0; entry < count; entry++) {
                if (sectors[entry] == sector) {
                    return entry;
                }
            }
            return NONE;
        }

        void change(int entry, int value, int kind) {
            values[entry] = value;
            kinds[entry] = kind;
        }

        void add(int sector, int value, int kind) {
            if (isFull()) {
                return;
            }
            sectors[count] = sector;
            change(count, value, kind);
            count++;
        }

        void dropFirst() {
            for (int entry = 1; entry < count; entry++) {
                sectors[entry - 1] = sectors[entry];
                values[entry - 1] = values[entry];
                kinds[entry - 1] = kinds[entry];
            }
            count--;
        }
    }
}
