/** How blocks are taken, collected and erased, with answers worked out by hand from the terms. */
public final class CollectingTest {
    private static final Expect EXPECT = new Expect("CollectingTest");

    public static void main(String[] args) {
        copiesKeepSectorValueAndMark();
        fewestValidPagesGoFirst();
        tieIsBrokenByWearThenByNumber();
        wearTakesTheColdBlock();
        wearIsTheReasonOnlyOnce();
        leastWornFreeBlockIsOpened();
        everyOperationOfACollectionCanBeCut();
        fullOpenBlockCutBeforeTheErasure();
        EXPECT.finish();
    }

    private static void due(String what, long got, long due) {
        EXPECT.equal(what, got, due);
    }

    private static void store(WornFlash flash, int sector, int times) {
        for (int i = 0; i < times; i++) {
            flash.write(sector, 1000 + i);
            due("a stored page", flash.flush(), WornFlash.DONE);
        }
    }

    private static void fill(WornFlash flash) {
        for (int sector = 0; sector < flash.sectors(); sector++) {
            flash.write(sector, 100 + sector);
        }
        due("filled", flash.flush(), WornFlash.DONE);
    }

    private static void dueWear(String when, WornFlash flash, int... wear) {
        for (int block = 0; block < wear.length; block++) {
            due(when + ": erasures of " + block, flash.erasures(block), wear[block]);
        }
    }

    private static void copiesKeepSectorValueAndMark() {
        WornFlash flash = new WornFlash(5, 1);
        flash.write(0, 7);
        flash.write(1, -7);
        flash.trim(2);
        flash.write(3, 0);
        flash.flush();
        for (int sector = 4; sector < 8; sector++) {
            store(flash, sector, 1);
        }
        store(flash, 0, 25);
        due("block 0 was collected", flash.erasures(0), 1);
        due("copy of a value", flash.tag(8), 1);
        due("its value", flash.read(1), -7);
        due("copy of a trim", flash.tag(9), 2);
        due("its mark", flash.holds(2), WornFlash.TRIMMED);
        due("copy of a 0", flash.tag(10), 3);
        due("its mark", flash.holds(3), WornFlash.VALUE);
        due("no copy of what is old", flash.tag(11), 0);
        flash.cut();
        due("its value after a cut", flash.read(1), -7);
        due("the trim after a cut", flash.holds(2), WornFlash.TRIMMED);
    }

    private static void fewestValidPagesGoFirst() {
        WornFlash flash = new WornFlash(5, 50);
        store(flash, 5, 1);
        store(flash, 6, 1);
        store(flash, 0, 10);
        for (int sector = 1; sector <= 3; sector++) {
            store(flash, sector, 1);
        }
        store(flash, 0, 2);
        // Full are 0 (sectors 5, 6), 1 (none), 2 (none), 3 (1, 2, 3 and, until now, 0).
        dueWear("the emptiest, lowest number", flash, 0, 1, 0, 0, 0);
        store(flash, 0, 4);
        dueWear("the next emptiest", flash, 0, 1, 1, 0, 0);
        store(flash, 1, 3);
        store(flash, 0, 1);
        // Full are 0 (5, 6), 3 (2, 3), 4 (none), 1 (1, and until now 0).
        dueWear("the emptiest again", flash, 0, 1, 1, 0, 1);
        store(flash, 2, 3);
        store(flash, 0, 1);
        // Full are 0 (5, 6), 1 (1), 3 (3), 2 (2, and until now 0): of 1 and 3, 3 is less worn.
        dueWear("the less worn of two", flash, 0, 1, 1, 1, 1);
        due("its copy", flash.place(3), 16);
        due("what was stored lies behind the copy", flash.place(0), 17);
    }

    private static void tieIsBrokenByWearThenByNumber() {
        WornFlash flash = new WornFlash(5, 50);
        store(flash, 0, 17);
        dueWear("of four empty ones the lowest", flash, 1, 0, 0, 0, 0);
        store(flash, 0, 4);
        due("the only free one", flash.open(), 0);
        dueWear("the lowest of the unworn", flash, 1, 1, 0, 0, 0);
        store(flash, 0, 12);
        dueWear("all once", flash, 1, 1, 1, 1, 1);
        store(flash, 0, 4);
        dueWear("again from the lowest that is full", flash, 2, 1, 1, 1, 1);
    }

    private static void wearTakesTheColdBlock() {
        WornFlash flash = new WornFlash(5, 1);
        fill(flash);
        store(flash, 0, 24);
        dueWear("a gap of two", flash, 0, 0, 2, 1, 1);
        due("not yet", flash.place(1), 1);
        store(flash, 0, 1);
        dueWear("block 0 for its wear", flash, 1, 0, 2, 1, 1);
        due("copy of 1", flash.place(1), 8);
        due("copy of 2", flash.place(2), 9);
        due("copy of 3", flash.place(3), 10);
        due("what was stored", flash.place(0), 11);
        due("serial of the first copy", flash.serial(8), 32);
        due("serial of what was stored", flash.serial(11), 35);
        due("value of a copy", flash.read(3), 103);
        store(flash, 0, 1);
        dueWear("block 1 for its wear, then 3", flash, 1, 1, 2, 2, 1);
        due("four copies filled block 0", flash.valid(0), 4);
        due("copy of 7", flash.place(7), 3);
        due("so one more block is open", flash.open(), 1);
        due("what was stored", flash.place(0), 4);
        due("one is free", flash.free(), 1);
        due("operations", flash.operations(), 8 + 26 + 7 + 7);
    }

    private static void wearIsTheReasonOnlyOnce() {
        WornFlash flash = new WornFlash(6, 1);
        fill(flash);
        store(flash, 11, 24);
        dueWear("a gap of two", flash, 0, 0, 0, 2, 1, 1);
        store(flash, 11, 1);
        // Block 0 fills block 3; the gap is two still, but now block 4 goes, which has no valid page.
        dueWear("0 for its wear, then 4", flash, 1, 0, 0, 2, 2, 1);
        due("block 3 has the copies", flash.valid(3), 4);
        due("block 0 is open", flash.open(), 0);
        due("what was stored", flash.place(11), 0);
        store(flash, 11, 4);
        // A page is needed anew, and so wear is a reason anew.
        dueWear("1 for its wear, then another", flash, 1, 1, 0, 2, 2, 2);
    }

    private static void leastWornFreeBlockIsOpened() {
        WornFlash flash = new WornFlash(5, 50);
        store(flash, 0, 16);
        flash.fuse(2);
        flash.write(0, 5);
        due("erased, then cut", flash.flush(), WornFlash.CUT);
        due("two are free", flash.free(), 2);
        due("none is open", flash.open(), WornFlash.NONE);
        dueWear("block 0 was erased", flash, 1, 0, 0, 0, 0);
        store(flash, 0, 1);
        due("the less worn of the two", flash.open(), 4);
        due("nothing was collected", flash.operations(), 18);
    }

    /**
     * Block 0 is collected into block 2: three copies, the erasure, then the page; cut before each
     * in turn. While a copy is missing, the empty block 3 goes; with all three, block 0, which is
     * as empty then and less worn.
     */
    private static void everyOperationOfACollectionCanBeCut() {
        int[] operations = {0, 2, 3, 4, 4, 5};
        int[] wearOf0 = {0, 0, 0, 1, 1, 1};
        int[] wearOf3 = {1, 2, 2, 1, 1, 1};
        for (int n = 1; n <= 6; n++) {
            WornFlash flash = new WornFlash(5, 1);
            fill(flash);
            store(flash, 0, 24);
            int before = flash.operations();
            flash.fuse(n);
            flash.write(0, -1);
            boolean isCut = n <= 5;
            String when = "cut at " + n;
            due(when, flash.flush(), isCut ? WornFlash.CUT : WornFlash.DONE);
            due(when + ": sector 0", flash.read(0), isCut ? 1023 : -1);
            for (int sector = 1; sector < 8; sector++) {
                due(when + ": sector " + sector, flash.read(sector), 100 + sector);
            }
            due(when + ": a block is free", flash.free(), 1);
            due(when + ": operations", flash.operations() - before, operations[n - 1]);
            due(when + ": open", flash.open(), n == 1 ? WornFlash.NONE : 2);
            dueWear(when, flash, wearOf0[n - 1], 0, 2, wearOf3[n - 1], 1);
        }
    }

    /** Four copies fill the open block; the cut comes before the erasure, so no block is free. */
    private static void fullOpenBlockCutBeforeTheErasure() {
        WornFlash flash = new WornFlash(6, 1);
        fill(flash);
        store(flash, 11, 24);
        flash.fuse(5);
        flash.write(11, -1);
        due("cut before the erasure", flash.flush(), WornFlash.CUT);
        due("none is open", flash.open(), WornFlash.NONE);
        due("one is free", flash.free(), 1);
        // Blocks 0 and 4 have no valid page; 0 is less worn.
        dueWear("block 0 was collected at once", flash, 1, 0, 0, 2, 1, 1);
        due("the copies are valid", flash.valid(3), 4);
        due("the value before", flash.read(11), 1023);
        due("the fuse is not set", flash.flush(), WornFlash.DONE);
    }
}
