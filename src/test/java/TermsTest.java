import java.util.List;

/**
 * One method for each sentence of the document's "Terms" that names a boundary case; the sentence
 * stands above it. The answers were worked out by hand, and the hot sector is stored one page at a
 * time, so that each run's pages can be followed.
 */
public final class TermsTest {
    private static final int NONE = WornFlash.NONE;
    private static final Expect EXPECT = new Expect("TermsTest");

    public static void main(String[] args) {
        placesOfTheFirstAndTheLastPage();
        greatestSerialNumberIsValid();
        putWhereTheBufferHasAnEntry();
        putWhereThereAreThreeEntries();
        putWithoutRoomIsCut();
        serialNumbersCountCopiesToo();
        noBlockIsOpen();
        openBlockIsFull();
        twoOrMoreFreeBlocks();
        freeBlockWithTheFewestErasures();
        equallyWornFreeBlocks();
        onlyOneFreeBlock();
        atTheSpreadAndAboveIt();
        greatestIsOfTheFreeBlockToo();
        greatestIsOfTheLastBlockToo();
        leastIsOfAnyBlock();
        wearVictimIsTheLeastWornOne();
        wearVictimOfEqualOnes();
        victimWithTheFewestValidPages();
        victimOfEqualOnesByErasures();
        victimOfEqualOnesByNumber();
        victimWithNoValidPage();
        validPagesAreCopiedInTheirOrder();
        openBlockIsFullThen();
        wearIsAReasonOnlyOnceForAPage();
        fuseEndsAStoredPage();
        fuseEndsACopy();
        fuseEndsAnErasure();
        cutWithAPartBlock();
        cutWithoutAPartBlock();
        cutBeforeAnyPage();
        serialNumberAfterACut();
        cutWithNoBlockFree();
        cutWithNoBlockFreeByErasures();
        cutWithNoBlockFreeByNumber();
        cutWithNoBlockFreeNeverForWear();
        cutNeverCollectsThePartBlock();
        cutCopiesIntoTheOpenBlock();
        cutCopiesUntilTheOpenBlockIsFull();
        EXPECT.finish();
    }

    private static void due(String what, long got, long due) {
        EXPECT.equal(what, got, due);
    }

    private static void dueWear(String what, WornFlash flash, Integer... due) {
        EXPECT.same(what + ": erasures", Runs.wear(flash, due.length), List.of(due));
    }

    private static void dueTags(String what, WornFlash flash, int block, Integer... due) {
        EXPECT.same(what + ": sectors in block " + block, Runs.tags(flash, block), List.of(due));
    }

    private static void dueSerials(String what, WornFlash flash, int block, Integer... due) {
        EXPECT.same(what + ": serials in block " + block, Runs.serials(flash, block), List.of(due));
    }

    /** Puts one value and flushes with the fuse set. */
    private static void storeWithFuse(String what, WornFlash flash, int n, int sector) {
        flash.write(sector, -1);
        flash.fuse(n);
        due(what, flash.flush(), WornFlash.CUT);
        due(what + ": the buffer", flash.buffered(), 0);
    }

    /** "page q of block b has the PLACE 4 * b + q" */
    private static void placesOfTheFirstAndTheLastPage() {
        WornFlash flash = new WornFlash(5, 1);
        Runs.fill(flash, 0, 7);
        for (int sector = 0; sector < 8; sector++) {
            due("place of the page " + sector, flash.place(sector), sector);
            due("tag of the page " + sector, flash.tag(sector), sector);
        }
        dueTags("block 1", flash, 1, 4, 5, 6, 7);
        dueTags("block 2", flash, 2, NONE, NONE, NONE, NONE);
    }

    /** "The programmed page with the greatest serial number of a sector is its VALID page." */
    private static void greatestSerialNumberIsValid() {
        WornFlash flash = new WornFlash(5, 50);
        Runs.store(flash, 0, 24);
        // Blocks 4 and 0 hold the newest pages; the valid one has a lower place than older ones.
        dueSerials("older", flash, 4, 16, 17, 18, 19);
        dueSerials("newer", flash, 0, 20, 21, 22, 23);
        due("the valid page", flash.place(0), 3);
        due("its value", flash.read(0), 24);
        flash.cut();
        due("the valid page after a cut", flash.place(0), 3);
        due("its value after a cut", flash.read(0), 24);
        due("one is valid", flash.valid(0), 1);
        due("none is valid", flash.valid(4), 0);
    }

    /** "if the buffer has an entry of this sector, that gets the new content and stays at its place" */
    private static void putWhereTheBufferHasAnEntry() {
        for (int sector = 0; sector < 3; sector++) {
            for (int entries = sector + 1; entries <= 3; entries++) {
                putsAgain(sector, entries, false);
                putsAgain(sector, entries, true);
            }
        }
    }

    private static void putsAgain(int sector, int entries, boolean trim) {
        WornFlash flash = new WornFlash(5, 1);
        for (int i = 0; i < entries; i++) {
            due("an entry", trim ? flash.write(i, 10 + i) : flash.trim(i), WornFlash.DONE);
        }
        String what = "entry " + sector + " of " + entries;
        flash.fuse(1);
        due(what, trim ? flash.trim(sector) : flash.write(sector, 99), WornFlash.DONE);
        flash.fuse(0);
        due(what + ": as many as before", flash.buffered(), entries);
        due(what + ": nothing is stored", flash.operations(), 0);
        due(what + ": its new content", flash.read(sector), trim ? 0 : 99);
        due(what + ": its new mark", flash.holds(sector), trim ? WornFlash.TRIMMED : WornFlash.VALUE);
        flash.flush();
        for (int i = 0; i < entries; i++) {
            boolean isTrim = trim == (i == sector);
            due(what + ": stored in their order", flash.tag(i), i);
            due(what + ": with its mark", flash.holds(i), isTrim ? WornFlash.TRIMMED : WornFlash.VALUE);
            due(what + ": with its value", flash.read(i), isTrim ? 0 : i == sector ? 99 : 10 + i);
        }
        due(what + ": no page more", flash.operations(), entries);
    }

    /** "Otherwise, if there are three entries, the first one is STORED; then a new entry comes behind" */
    private static void putWhereThereAreThreeEntries() {
        WornFlash flash = new WornFlash(5, 1);
        flash.write(7, 1);
        flash.trim(3);
        flash.write(5, 3);
        due("three are stored by none", flash.operations(), 0);
        due("a fourth", flash.write(0, 4), WornFlash.DONE);
        due("stores one", flash.operations(), 1);
        dueTags("the first", flash, 0, 7, NONE, NONE, NONE);
        due("three are left", flash.buffered(), 3);
        due("a trim as the fifth", flash.trim(7), WornFlash.DONE);
        dueTags("the next", flash, 0, 7, 3, NONE, NONE);
        due("the stored value waits no longer", flash.holds(7), WornFlash.TRIMMED);
        flash.flush();
        dueTags("the rest in their order", flash, 0, 7, 3, 5, 0);
        dueTags("the new one last", flash, 1, 7, NONE, NONE, NONE);
    }

    private static void putWithoutRoomIsCut() {
        WornFlash flash = new WornFlash(5, 1);
        Runs.fill(flash, 0, 2);
        flash.fuse(1);
        due("one entry", flash.write(0, 1), WornFlash.DONE);
        due("two entries", flash.trim(1), WornFlash.DONE);
        due("three entries", flash.write(2, 3), WornFlash.DONE);
        due("a fourth is cut", flash.write(3, 4), WornFlash.CUT);
        due("no entry is left", flash.buffered(), 0);
        for (int sector = 0; sector < 3; sector++) {
            due("as before", flash.read(sector), 100 + sector);
        }
        due("the fourth did not come", flash.holds(3), WornFlash.NOTHING);
    }

    /** "the next serial number (0 at first, and one more each time, for copies too)" */
    private static void serialNumbersCountCopiesToo() {
        WornFlash flash = coldFirst();
        dueSerials("before", flash, 0, 0, 1, 2, 3);
        Runs.store(flash, 11, 1);
        dueTags("four copies", flash, 2, 0, 1, 2, 3);
        dueSerials("four copies", flash, 2, 40, 41, 42, 43);
        due("and what was stored", flash.serial(flash.place(11)), 44);
    }

    /**
     * Six blocks, SPREAD 1. Sectors 0 .. 7 in blocks 0 and 1 are cold; sector 11 was stored 32
     * times: in blocks 2, 3, 4, 5 (2 was erased), 2 (3 was), 3 (4 was), 4 (5 was), 5 (2 was).
     * Blocks 3, 4 and 5 are full of it, the valid page is the last of 5, and block 2 is free.
     */
    private static WornFlash coldFirst() {
        WornFlash flash = new WornFlash(6, 1);
        Runs.fill(flash, 0, 7);
        Runs.store(flash, 11, 32);
        dueWear("cold first", flash, 0, 0, 2, 1, 1, 1);
        due("cold first: one is free", flash.free(), 1);
        due("cold first: the valid page", flash.place(11), 23);
        return flash;
    }

    /**
     * The same, but cold are blocks 3 and 4: sector 11 is stored 12 times, then 0 .. 7 are, then
     * 11 again 20 times: in 5 (0 was erased), 0 (1 was), 1 (2 was), 2 (5 was), 5 (0 was).
     */
    private static WornFlash coldLater() {
        WornFlash flash = new WornFlash(6, 1);
        Runs.store(flash, 11, 12);
        Runs.fill(flash, 0, 7);
        Runs.store(flash, 11, 20);
        dueWear("cold later", flash, 2, 1, 1, 0, 0, 1);
        due("cold later: one is free", flash.free(), 1);
        due("cold later: the valid page", flash.place(11), 23);
        return flash;
    }

    /** "If no block is open" */
    private static void noBlockIsOpen() {
        WornFlash flash = new WornFlash(5, 1);
        Runs.store(flash, 0, 1);
        due("at first the lowest is opened", flash.open(), 0);
        due("for its first page", flash.place(0), 0);
        Runs.store(flash, 0, 3);
        flash.cut();
        due("none is open", flash.open(), NONE);
        Runs.store(flash, 0, 1);
        due("the next is opened", flash.open(), 1);
        due("for its first page", flash.place(0), 4);
    }

    /** "or the open one is full" */
    private static void openBlockIsFull() {
        WornFlash flash = new WornFlash(5, 1);
        for (int page = 0; page < 16; page++) {
            Runs.store(flash, 0, 1);
            due("block of page " + page, flash.open(), page / 4);
            due("the lowest erased page", flash.place(0), page);
        }
    }

    /** "if there are two or more free blocks": nothing is collected then */
    private static void twoOrMoreFreeBlocks() {
        WornFlash flash = new WornFlash(5, 1);
        Runs.store(flash, 0, 12);
        due("two are free", flash.free(), 2);
        Runs.store(flash, 0, 1);
        due("one of them is open", flash.open(), 3);
        dueWear("none was erased", flash, 0, 0, 0, 0, 0);
        due("a page each", flash.operations(), 13);
    }

    /** "the one with the fewest erasures" */
    private static void freeBlockWithTheFewestErasures() {
        WornFlash flash = new WornFlash(5, 50);
        Runs.store(flash, 0, 16);
        storeWithFuse("cut behind the erasure of block 0", flash, 2, 0);
        due("two are free", flash.free(), 2);
        dueWear("before", flash, 1, 0, 0, 0, 0);
        Runs.store(flash, 0, 1);
        due("the less worn one, of a higher number", flash.open(), 4);
        dueWear("none was erased for it", flash, 1, 0, 0, 0, 0);
    }

    /** "(the lowest number of equal ones)" */
    private static void equallyWornFreeBlocks() {
        WornFlash flash = new WornFlash(5, 50);
        Runs.store(flash, 0, 20);
        storeWithFuse("cut behind the erasure of block 1", flash, 2, 0);
        due("two are free", flash.free(), 2);
        dueWear("before", flash, 1, 1, 0, 0, 0);
        Runs.store(flash, 0, 1);
        due("the lower one", flash.open(), 0);
    }

    /** "If there is only one, this becomes open, and then a full block is COLLECTED" */
    private static void onlyOneFreeBlock() {
        WornFlash flash = new WornFlash(5, 50);
        Runs.store(flash, 0, 16);
        due("one is free", flash.free(), 1);
        due("the open one is full", flash.open(), 3);
        dueWear("not before a page is needed", flash, 0, 0, 0, 0, 0);
        Runs.store(flash, 0, 1);
        due("the free one is open", flash.open(), 4);
        dueWear("a full one was erased", flash, 1, 0, 0, 0, 0);
        due("and is the free one now", flash.free(), 1);
        Runs.store(flash, 0, 3);
        dueWear("not again while there is room", flash, 1, 0, 0, 0, 0);
        Runs.store(flash, 0, 1);
        due("it is open, though more worn", flash.open(), 0);
        dueWear("the next was erased", flash, 1, 1, 0, 0, 0);
    }

    /** "is more than the SPREAD above the least one" */
    private static void atTheSpreadAndAboveIt() {
        WornFlash above = coldFirst();
        Runs.store(above, 11, 1);
        due("two above with SPREAD 1: for wear", above.erasures(0), 1);
        WornFlash at = new WornFlash(6, 2);
        Runs.fill(at, 0, 7);
        Runs.store(at, 11, 33);
        dueWear("two above with SPREAD 2: for few valid pages", at, 0, 0, 2, 2, 1, 1);
        Runs.store(at, 11, 15);
        dueWear("three above at the last one", at, 0, 0, 3, 2, 2, 2);
        Runs.store(at, 11, 1);
        due("three above with SPREAD 2: for wear", at.erasures(0), 1);
    }

    /** "the greatest number of erasures of all blocks": also of the one that becomes open */
    private static void greatestIsOfTheFreeBlockToo() {
        WornFlash flash = coldFirst();
        due("of the full blocks none is two above", flash.erasures(3) + flash.erasures(4) + flash.erasures(5), 3);
        Runs.store(flash, 11, 1);
        due("the free one, which is, counts", flash.erasures(0), 1);
    }

    private static void greatestIsOfTheLastBlockToo() {
        WornFlash flash = new WornFlash(5, 1);
        Runs.fill(flash, 0, 7);
        Runs.store(flash, 7, 2);
        Runs.fill(flash, 0, 1);
        Runs.store(flash, 7, 7);
        dueWear("3 had but one valid page", flash, 0, 0, 0, 1, 0);
        Runs.fill(flash, 0, 1);
        Runs.store(flash, 7, 1);
        dueWear("then 4 had", flash, 0, 0, 0, 1, 1);
        Runs.store(flash, 7, 4);
        dueWear("then 2 had none", flash, 0, 0, 1, 1, 1);
        Runs.store(flash, 7, 3);
        dueWear("then 4 had one", flash, 0, 0, 1, 1, 2);
        Runs.store(flash, 7, 1);
        dueWear("4 is two above 0", flash, 1, 0, 1, 1, 2);
        dueTags("its copies", flash, 4, 2, 3, 7, NONE);
    }

    /** "the least one": wherever the only cold block is */
    private static void leastIsOfAnyBlock() {
        for (int cold = 0; cold < 5; cold++) {
            WornFlash flash = new WornFlash(5, 1);
            Runs.store(flash, 7, 4 * cold);
            Runs.fill(flash, 0, 3);
            Runs.store(flash, 7, 32 - 4 * cold);
            int first = cold == 0 ? 1 : 0;
            for (int block = 0; block < 5; block++) {
                int due = block == cold ? 0 : block == first ? 2 : 1;
                due("cold is " + cold + ": erasures of " + block, flash.erasures(block), due);
            }
            Runs.store(flash, 7, 1);
            due("cold is " + cold + ": collected", flash.erasures(cold), 1);
            dueTags("cold is " + cold + ": its copies", flash, first, 0, 1, 2, 3);
        }
    }

    /** "the full block with the fewest erasures": how many valid pages it has does not count */
    private static void wearVictimIsTheLeastWornOne() {
        WornFlash flash = coldLater();
        due("it has four valid pages", flash.valid(3), 4);
        due("another one has none", flash.valid(1), 0);
        Runs.store(flash, 11, 1);
        due("it was erased", flash.erasures(3), 1);
        dueTags("its pages were copied", flash, 0, 0, 1, 2, 3);
    }

    /** "of equal ones the lowest number in both cases": here too valid pages do not count */
    private static void wearVictimOfEqualOnes() {
        WornFlash flash = new WornFlash(6, 1);
        Runs.fill(flash, 0, 6);
        Runs.store(flash, 11, 33);
        dueWear("before", flash, 0, 0, 2, 1, 1, 1);
        due("four valid pages in the lower", flash.valid(0), 4);
        due("three in the higher", flash.valid(1), 3);
        Runs.store(flash, 11, 1);
        due("the lower was erased", flash.erasures(0), 1);
        due("the higher was not", flash.erasures(1), 0);
    }

    /** "otherwise the full block with the fewest valid pages" */
    private static void victimWithTheFewestValidPages() {
        WornFlash flash = new WornFlash(5, 50);
        Runs.fill(flash, 0, 3);
        Runs.fill(flash, 4, 5);
        Runs.store(flash, 6, 2);
        Runs.fill(flash, 7, 7);
        Runs.store(flash, 6, 3);
        Runs.fill(flash, 0, 0);
        Runs.fill(flash, 4, 4);
        Runs.fill(flash, 5, 5);
        Runs.fill(flash, 6, 6);
        // Valid are 1, 2, 3 in block 0, none in 1, 7 in 2, and 0, 4, 5, 6 in 3.
        Runs.fill(flash, 1, 1);
        dueWear("the one with none", flash, 0, 1, 0, 0, 0);
        Runs.fill(flash, 2, 3);
        Runs.fill(flash, 0, 0);
        // Valid are none in block 0, 7 in 2, 4, 5, 6 in 3, and 1, 2, 3, 0 in 4.
        Runs.fill(flash, 6, 6);
        dueWear("none again", flash, 1, 1, 0, 0, 0);
        Runs.store(flash, 6, 3);
        // Valid are 7 in block 2, 4, 5 in 3, 1, 2, 3, 0 in 4, and 6 in 1.
        Runs.fill(flash, 6, 6);
        dueWear("the one with one, less worn than 1", flash, 1, 1, 1, 0, 0);
        dueTags("its copy, and what was stored", flash, 0, 7, 6, NONE, NONE);
    }

    /** "of equal ones that with the fewest erasures" */
    private static void victimOfEqualOnesByErasures() {
        WornFlash flash = new WornFlash(5, 50);
        Runs.store(flash, 0, 24);
        due("no valid page in 2", flash.valid(2), 0);
        due("none in 4", flash.valid(4), 0);
        Runs.store(flash, 0, 12);
        dueWear("in their turn, though 0 is lower", flash, 1, 1, 1, 1, 1);
    }

    /** "of equal ones the lowest number in both cases" */
    private static void victimOfEqualOnesByNumber() {
        WornFlash flash = new WornFlash(5, 50);
        Runs.store(flash, 0, 17);
        dueWear("of 0, 1 and 2", flash, 1, 0, 0, 0, 0);
        Runs.store(flash, 0, 4);
        dueWear("of 1, 2 and 3", flash, 1, 1, 0, 0, 0);
        Runs.store(flash, 0, 16);
        dueWear("of 0, 1 and 2 again", flash, 2, 1, 1, 1, 1);
    }

    /** A victim without valid pages is erased, and that is all. */
    private static void victimWithNoValidPage() {
        WornFlash flash = new WornFlash(5, 50);
        Runs.store(flash, 0, 17);
        due("an erasure and 17 pages", flash.operations(), 18);
        dueTags("no copy", flash, 4, 0, NONE, NONE, NONE);
        dueTags("all erased", flash, 0, NONE, NONE, NONE, NONE);
        dueSerials("no serial number was taken", flash, 4, 16, NONE, NONE, NONE);
    }

    /** "Its valid pages, from page 0 on, are copied: sector, value and mark are programmed again" */
    private static void validPagesAreCopiedInTheirOrder() {
        WornFlash flash = new WornFlash(6, 1);
        flash.write(7, 70);
        flash.write(0, 0);
        flash.trim(9);
        flash.flush();
        Runs.store(flash, 11, 41);
        dueWear("a gap of two", flash, 0, 2, 1, 1, 1, 1);
        dueTags("before", flash, 0, 7, 0, 9, 11);
        Runs.store(flash, 11, 1);
        dueWear("block 0 was collected", flash, 1, 2, 1, 1, 1, 1);
        dueTags("three copies, what was not valid is not copied", flash, 1, 7, 0, 9, 11);
        dueSerials("three copies and what was stored", flash, 1, 44, 45, 46, 47);
        due("a value", flash.read(7), 70);
        due("a value of 0", flash.holds(0), WornFlash.VALUE);
        due("a trim", flash.holds(9), WornFlash.TRIMMED);
        due("what was stored", flash.place(11), 7);
        due("all of block 0 is erased", flash.tag(0), NONE);
    }

    /** "If the open block is full then, all this is done once more." */
    private static void openBlockIsFullThen() {
        WornFlash flash = coldFirst();
        int before = flash.operations();
        Runs.store(flash, 11, 1);
        dueTags("four copies fill block 2", flash, 2, 0, 1, 2, 3);
        due("block 0, free since, is open", flash.open(), 0);
        dueTags("what was stored is there", flash, 0, 11, NONE, NONE, NONE);
        dueWear("block 3 was collected next", flash, 1, 0, 2, 2, 1, 1);
        due("and is the free one", flash.free(), 1);
        due("four copies, two erasures, a page", flash.operations() - before, 7);
    }

    /** "and this was not the reason yet since a page is needed" */
    private static void wearIsAReasonOnlyOnceForAPage() {
        WornFlash flash = coldFirst();
        Runs.store(flash, 11, 1);
        due("block 1 is two below, but not taken for this page", flash.erasures(1), 0);
        Runs.store(flash, 11, 3);
        due("nor while there is room", flash.erasures(1), 0);
        Runs.store(flash, 11, 1);
        due("for the next page it is", flash.erasures(1), 1);
        dueTags("its copies", flash, 3, 4, 5, 6, 7);
    }

    /** "the n-th operation from then on is not done": a page that was to be stored */
    private static void fuseEndsAStoredPage() {
        WornFlash flash = new WornFlash(5, 1);
        Runs.store(flash, 0, 2);
        storeWithFuse("cut at the third page", flash, 1, 0);
        dueTags("not programmed", flash, 0, 0, 0, NONE, NONE);
        due("the value before", flash.read(0), 2);
        Runs.store(flash, 1, 1);
        dueTags("the fuse is not set any more", flash, 0, 0, 0, 1, NONE);
        dueSerials("no number was taken", flash, 0, 0, 1, 2, NONE);
    }

    /** The same for a copy: what it was to be copied from stays valid. */
    private static void fuseEndsACopy() {
        for (int n = 2; n <= 4; n++) {
            WornFlash flash = coldFirst();
            int before = flash.operations();
            storeWithFuse("cut at copy " + n, flash, n, 11);
            // No block is free then, and block 3, without a valid page, is erased at once.
            due("copies before it, and an erasure", flash.operations() - before, n);
            due("the last copy", flash.place(n - 2), 8 + n - 2);
            due("no copy of the next", flash.place(n - 1), n - 1);
            due("its value", flash.read(n - 1), 100 + n - 1);
            due("no page is left out", flash.tag(8 + n - 1), NONE);
            due("the open block", flash.open(), 2);
            dueWear("block 3 was collected", flash, 0, 0, 2, 2, 1, 1);
        }
        WornFlash first = coldFirst();
        storeWithFuse("cut at the first copy", first, 1, 11);
        dueTags("not programmed", first, 2, NONE, NONE, NONE, NONE);
        due("so block 2 is free", first.free(), 1);
        due("and not open", first.open(), NONE);
        dueWear("nothing was erased", first, 0, 0, 2, 1, 1, 1);
    }

    /** The same for an erasure: all pages of the block stay programmed. */
    private static void fuseEndsAnErasure() {
        WornFlash flash = new WornFlash(5, 50);
        Runs.store(flash, 0, 16);
        storeWithFuse("cut at the erasure", flash, 1, 0);
        dueTags("block 0 is as it was", flash, 0, 0, 0, 0, 0);
        dueWear("none was erased", flash, 0, 0, 0, 0, 0);
        due("no operation", flash.operations(), 16);
        due("block 4 is free, not open", flash.open(), NONE);
        Runs.store(flash, 0, 1);
        dueWear("it is now", flash, 1, 0, 0, 0, 0);
        due("in block 4", flash.place(0), 16);
    }

    /** "the buffer is empty, and the open block is the one that is neither free nor full" */
    private static void cutWithAPartBlock() {
        for (int pages = 1; pages <= 3; pages++) {
            WornFlash flash = new WornFlash(5, 1);
            Runs.store(flash, 0, 8 + pages);
            flash.write(0, 50);
            flash.write(1, 51);
            flash.trim(2);
            flash.cut();
            due("the buffer", flash.buffered(), 0);
            due("the part block", flash.open(), 2);
            due("the value before", flash.read(0), 8 + pages);
            due("nothing", flash.holds(1), WornFlash.NOTHING);
            Runs.store(flash, 0, 1);
            due("its next page", flash.place(0), 8 + pages);
        }
    }

    /** "if there is one" */
    private static void cutWithoutAPartBlock() {
        WornFlash flash = new WornFlash(5, 1);
        Runs.store(flash, 0, 8);
        due("a full block is open", flash.open(), 1);
        flash.cut();
        due("none is open", flash.open(), NONE);
        due("three are free", flash.free(), 3);
        Runs.store(flash, 0, 1);
        due("the next block", flash.open(), 2);
    }

    /** "or 0": no page is programmed at all */
    private static void cutBeforeAnyPage() {
        WornFlash flash = new WornFlash(5, 1);
        storeWithFuse("cut at the first page", flash, 1, 3);
        due("none is open", flash.open(), NONE);
        due("all are free", flash.free(), 5);
        Runs.store(flash, 3, 1);
        dueSerials("the first number", flash, 0, 0, NONE, NONE, NONE);
    }

    /** "The next serial number is one more than the greatest of all programmed pages" */
    private static void serialNumberAfterACut() {
        WornFlash flash = new WornFlash(5, 50);
        Runs.store(flash, 0, 24);
        flash.cut();
        Runs.store(flash, 0, 1);
        // The greatest number, 23, was in block 0; what was stored is in block 1.
        due("the place", flash.place(0), 4);
        dueSerials("one more", flash, 1, 24, NONE, NONE, NONE);
        storeWithFuse("cut in block 1", flash, 1, 0);
        Runs.store(flash, 0, 1);
        dueSerials("one more again", flash, 1, 24, 25, NONE, NONE);
    }

    /** "If no block is free then, a full block is collected at once: that with the fewest valid pages" */
    private static void cutWithNoBlockFree() {
        WornFlash flash = coldFirst();
        due("no valid page in 3", flash.valid(3), 0);
        storeWithFuse("cut at the second copy", flash, 2, 11);
        due("a block is free again", flash.free(), 1);
        dueTags("it is block 3", flash, 3, NONE, NONE, NONE, NONE);
        due("a copy and an erasure", flash.erasures(3), 2);
        due("the open block", flash.open(), 2);
        dueTags("with one copy", flash, 2, 0, NONE, NONE, NONE);
    }

    /** "(of equal ones that with the fewest erasures" */
    private static void cutWithNoBlockFreeByErasures() {
        WornFlash flash = coldLater();
        storeWithFuse("cut at the erasure", flash, 5, 11);
        // No valid page have 1 and 2, erased once, and 3, never erased and copied wholly.
        dueWear("the highest of three", flash, 2, 1, 1, 1, 0, 1);
        due("a block is free", flash.free(), 1);
        due("block 0 is full, so none is open", flash.open(), NONE);
        due("the copies are valid", flash.valid(0), 4);
    }

    /** "of equal ones the lowest number)" */
    private static void cutWithNoBlockFreeByNumber() {
        WornFlash flash = coldFirst();
        due("no valid page in 3", flash.valid(3), 0);
        due("none in 4", flash.valid(4), 0);
        due("equally worn", flash.erasures(3), flash.erasures(4));
        storeWithFuse("cut at the third copy", flash, 3, 11);
        dueWear("the lower", flash, 0, 0, 2, 2, 1, 1);
    }

    /** After a cut the wear is no reason, however far it is spread. */
    private static void cutWithNoBlockFreeNeverForWear() {
        WornFlash flash = coldLater();
        storeWithFuse("cut at the fourth copy", flash, 4, 11);
        dueWear("not 3 or 4, but the first without a valid page", flash, 2, 2, 1, 0, 0, 1);
        due("the open block has three copies", flash.valid(0), 3);
        due("and is open", flash.open(), 0);
    }

    /** "a full block is collected": the open one, with fewer valid pages, is not full */
    private static void cutNeverCollectsThePartBlock() {
        WornFlash flash = new WornFlash(9, 50);
        for (int block = 0; block < 8; block++) {
            Runs.fill(flash, 3 * block, 3 * block + 2);
            int next = Math.min(3 * block + 3, 23);
            Runs.fill(flash, next, next);
        }
        for (int block = 0; block < 8; block++) {
            due("valid pages of " + block, flash.valid(block), 3);
        }
        storeWithFuse("cut at the second copy", flash, 2, 0);
        // One page is valid in block 8, two are in 0, and three in each other one.
        dueWear("0 was collected", flash, 1, 0, 0, 0, 0, 0, 0, 0, 0);
        due("8 is open", flash.open(), 8);
        dueTags("8 has the copies", flash, 8, 0, 1, 2, NONE);
    }

    /** "there is always room for its valid pages in the open block, or it has none" */
    private static void cutCopiesIntoTheOpenBlock() {
        WornFlash flash = new WornFlash(5, 50);
        Runs.fill(flash, 0, 7);
        for (int sector : new int[] {0, 1, 4, 5, 0, 4, 0, 4}) {
            Runs.fill(flash, sector, sector);
        }
        // Valid are 2 and 3 in block 0, 6 and 7 in 1, 1 and 5 in 2, and 0 and 4 in 3.
        storeWithFuse("cut at the second copy of block 0", flash, 2, 0);
        dueTags("the first copy, and the second at once", flash, 4, 2, 3, NONE, NONE);
        dueSerials("their numbers", flash, 4, 16, 17, NONE, NONE);
        due("that block is open", flash.open(), 4);
        dueWear("block 0 was erased at once", flash, 1, 0, 0, 0, 0);
        due("one is free", flash.free(), 1);
        due("two copies and an erasure", flash.operations(), 19);
        for (int sector = 0; sector < 8; sector++) {
            due("nothing is lost", flash.read(sector), 100 + sector);
        }
    }

    /** There is just room then: the copies fill the open block, which stays open as a full one does. */
    private static void cutCopiesUntilTheOpenBlockIsFull() {
        WornFlash flash = new WornFlash(5, 1);
        Runs.fill(flash, 0, 3);
        Runs.store(flash, 7, 23);
        Runs.fill(flash, 5, 5);
        Runs.store(flash, 7, 3);
        Runs.fill(flash, 6, 6);
        Runs.store(flash, 7, 4);
        // Valid are 0 .. 3 in block 0, 5 in 2, 6 in 3 and 7 in 4; block 1 is free.
        dueWear("a gap of two", flash, 0, 2, 1, 1, 1);
        storeWithFuse("cut at the last copy of block 0", flash, 4, 7);
        // One page is left valid in block 0, as in 2, 3 and 4, and 0 is the least worn.
        dueWear("block 0 was collected at once", flash, 1, 2, 1, 1, 1);
        dueTags("its last copy fills block 1", flash, 1, 0, 1, 2, 3);
        due("which is open", flash.open(), 1);
        due("one is free", flash.free(), 1);
        Runs.store(flash, 7, 1);
        due("the free one is opened next", flash.open(), 0);
    }
}
