import java.util.Collections;
import java.util.List;
import java.util.Random;

/**
 * One method for each sentence of promises 1 to 18 that names a boundary case; the sentence stands
 * above it. The boundary cases of the terms are in TermsTest.
 */
public final class EdgesTest {
    private static final int MIN = Integer.MIN_VALUE;
    private static final int MAX = Integer.MAX_VALUE;
    // With 4 times these, or 4 times these and a page, an int wraps around to a small number.
    private static final int WRAP = 1 << 30;
    private static final int[] NEVER = {-1, -2, -3, -4, -5, MIN, MIN + 1, WRAP, WRAP + 1, -WRAP, MAX};
    private static final Expect EXPECT = new Expect("EdgesTest");

    public static void main(String[] args) {
        blocksOutsideAreEight();
        blocksAtTheEdgesAreTaken();
        spreadOutsideIsFour();
        spreadAtTheEdgesIsTaken();
        wrongBlocksLeaveTheSpreadAndTheReverse();
        sectorsOfEveryFlash();
        writeRefusesNoSuchSector();
        writeTakesTheFirstAndTheLastSector();
        writeTakesEveryValue();
        writeIsCut();
        trimRefusesNoSuchSector();
        trimOfASectorThatHoldsNothing();
        trimOfATrim();
        trimIsCut();
        flushOfAnEmptyBuffer();
        flushUntilEmpty();
        flushOverTheEndOfABlock();
        flushThatCollects();
        flushIsCut();
        cutLeavesTheFuse();
        cutOfANewObject();
        cutTwice();
        fuseOutsideIsRefused();
        fuseRefusedChangesNothing();
        fuseAtTheEdgesIsTaken();
        fuseZeroIsNotSet();
        fuseIsSetAnew();
        fuseOfAThousandEnds();
        readPrefersTheBuffer();
        readOfTrimAndNothing();
        readOfNoSuchSector();
        holdsPrefersTheBuffer();
        holdsOfNoSuchSector();
        bufferedFromNoneToThree();
        placeOfNothing();
        placeOfNoSuchSector();
        tagOfAnErasedPage();
        tagOfNoSuchPlace();
        serialOfAnErasedPage();
        serialOfNoSuchPlace();
        validFromNoneToFour();
        validOfNoSuchBlock();
        erasuresOfNoSuchBlock();
        openWhenNoneIs();
        freeFromAllToOne();
        operationsThatWereNotDone();
        EXPECT.finish();
    }

    private static void due(String what, long got, long due) {
        EXPECT.equal(what, got, due);
    }

    private static void dueBlocks(String what, WornFlash flash, int blocks) {
        due(what + ": free", flash.free(), blocks);
        due(what + ": sectors", flash.sectors(), 4 * (blocks - 3));
        due(what + ": the last block", flash.erasures(blocks - 1), 0);
        due(what + ": none behind it", flash.erasures(blocks), WornFlash.NONE);
        due(what + ": its last sector", flash.trim(4 * (blocks - 3) - 1), WornFlash.DONE);
        due(what + ": none behind that", flash.trim(4 * (blocks - 3)), WornFlash.REFUSED);
    }

    /** "The flash has so many blocks, or 8 if that is not 5 .. 12" */
    private static void blocksOutsideAreEight() {
        for (int blocks : new int[] {4, 3, 1, 0, -1, -5, -8, MIN, 13, 14, 100, WRAP + 5, MAX}) {
            dueBlocks("1: " + blocks + " blocks", new WornFlash(blocks, 1), 8);
        }
    }

    private static void blocksAtTheEdgesAreTaken() {
        for (int blocks = 5; blocks <= 12; blocks++) {
            dueBlocks("1: " + blocks + " blocks", new WornFlash(blocks, 1), blocks);
        }
    }

    /** "SPREAD is spread, or 4 if that is not 1 .. 50" */
    private static void spreadOutsideIsFour() {
        for (int spread : new int[] {0, -1, -4, MIN, 51, 52, 1000, MAX}) {
            due("1: spread " + spread, wearWhenAColdBlockGoes(8, spread), 5);
        }
    }

    private static void spreadAtTheEdgesIsTaken() {
        for (int spread : new int[] {1, 2, 3, 4, 5, 49, 50}) {
            due("1: spread " + spread, wearWhenAColdBlockGoes(8, spread), spread + 1);
        }
    }

    private static void wrongBlocksLeaveTheSpreadAndTheReverse() {
        due("1: spread 2 with 4 blocks", wearWhenAColdBlockGoes(4, 2), 3);
        due("1: spread 2 with 13 blocks", wearWhenAColdBlockGoes(13, 2), 3);
        dueBlocks("1: 5 blocks with spread 0", new WornFlash(5, 0), 5);
        dueBlocks("1: 12 blocks with spread 51", new WornFlash(12, 51), 12);
    }

    /**
     * How worn the most worn block was when the cold block 0 was collected: by the wear alone, as
     * it always has more valid pages than another one. Each length of the run is a new object.
     */
    private static int wearWhenAColdBlockGoes(int blocks, int spread) {
        int greatest = 0;
        for (int writes = 1; writes <= 500; writes++) {
            List<Integer> wear = Runs.wear(withColdBlocks(blocks, spread, writes), 8);
            if (wear.get(0) > 0) {
                return greatest;
            }
            greatest = wear.stream().mapToInt(Integer::intValue).max().orElseThrow();
        }
        return WornFlash.NONE;
    }

    /** Of 8 blocks five get three cold sectors and a hot one each; then five sectors are hot. */
    private static WornFlash withColdBlocks(int blocks, int spread, int writes) {
        WornFlash flash = new WornFlash(blocks, spread);
        int cold = 5;
        for (int i = 0; i < writes; i++) {
            boolean isCold = i < 20 && i % 4 != 3;
            flash.write(isCold ? cold : i < 20 ? i / 4 : i % 5, i);
            cold += isCold ? 1 : 0;
        }
        return flash;
    }

    /** "The number of sectors": 4 times (the number of blocks less 3) */
    private static void sectorsOfEveryFlash() {
        int[] due = {8, 12, 16, 20, 24, 28, 32, 36};
        for (int blocks = 5; blocks <= 12; blocks++) {
            due("2: sectors of " + blocks, new WornFlash(blocks, 1).sectors(), due[blocks - 5]);
        }
        due("2: sectors of 4", new WornFlash(4, 1).sectors(), 20);
        due("2: sectors of 13", new WornFlash(13, 1).sectors(), 20);
    }

    /** "REFUSED, changing nothing, when there is no such sector" */
    private static void writeRefusesNoSuchSector() {
        for (int entries = 0; entries <= 3; entries++) {
            refusesNoSuchSector(entries, 5, false);
            refusesNoSuchSector(entries, 6, false);
        }
    }

    private static void trimRefusesNoSuchSector() {
        for (int entries = 0; entries <= 3; entries++) {
            refusesNoSuchSector(entries, 5, true);
            refusesNoSuchSector(entries, 6, true);
        }
    }

    private static void refusesNoSuchSector(int entries, int blocks, boolean trim) {
        WornFlash flash = new WornFlash(blocks, 1);
        Runs.store(flash, 4, 5);
        for (int sector = 0; sector < entries; sector++) {
            flash.write(sector, 9);
        }
        flash.fuse(1);
        List<Integer> before = Runs.answers(flash, blocks);
        String name = (trim ? "4: trim" : "3: write") + " with " + entries + " entries: ";
        for (int sector : NEVER) {
            due(name + sector, put(flash, sector, trim), WornFlash.REFUSED);
        }
        for (int sector = 4 * (blocks - 3); sector < 4 * blocks + 2; sector++) {
            due(name + sector, put(flash, sector, trim), WornFlash.REFUSED);
        }
        EXPECT.same(name + "all answers", Runs.answers(flash, blocks), before);
        flash.write(0, 8);
        due(name + "the fuse is as it was", flash.flush(), WornFlash.CUT);
        due(name + "operations", flash.operations(), 5);
    }

    private static int put(WornFlash flash, int sector, boolean trim) {
        return trim ? flash.trim(sector) : flash.write(sector, 5);
    }

    private static void writeTakesTheFirstAndTheLastSector() {
        for (int blocks = 5; blocks <= 12; blocks++) {
            WornFlash flash = new WornFlash(blocks, 1);
            int last = 4 * (blocks - 3) - 1;
            due("3: sector 0", flash.write(0, 6), WornFlash.DONE);
            due("3: sector " + last, flash.write(last, 7), WornFlash.DONE);
            flash.flush();
            due("3: of sector 0", flash.read(0), 6);
            due("3: of sector " + last, flash.read(last), 7);
            due("3: its page", flash.tag(1), last);
        }
    }

    /** A value is any int; 0 and -1 are no special ones, and a value of 0 is no trim. */
    private static void writeTakesEveryValue() {
        for (int value : new int[] {0, 1, -1, MIN, MAX}) {
            WornFlash flash = new WornFlash(5, 1);
            due("3: write of " + value, flash.write(2, value), WornFlash.DONE);
            due("3: in the buffer", flash.read(2), value);
            due("3: it is a value", flash.holds(2), WornFlash.VALUE);
            flash.flush();
            due("3: on its page", flash.read(2), value);
            due("3: it is a value there", flash.holds(2), WornFlash.VALUE);
        }
    }

    /** "DONE or CUT" */
    private static void writeIsCut() {
        WornFlash flash = new WornFlash(5, 1);
        Runs.fill(flash, 0, 2);
        flash.write(0, 1);
        flash.write(1, 2);
        flash.fuse(1);
        due("3: the third entry needs no page", flash.write(2, 3), WornFlash.DONE);
        due("3: the fourth does", flash.write(3, 4), WornFlash.CUT);
        due("3: no entry is left, nor comes", flash.buffered(), 0);
        due("3: the first has its old value", flash.read(0), 100);
        due("3: the third has its old value", flash.read(2), 102);
        due("3: the new one holds nothing", flash.holds(3), WornFlash.NOTHING);
        due("3: again", flash.write(3, 4), WornFlash.DONE);
    }

    private static void trimIsCut() {
        WornFlash flash = new WornFlash(5, 1);
        Runs.fill(flash, 0, 3);
        flash.trim(0);
        flash.trim(1);
        flash.fuse(1);
        due("4: the third entry needs no page", flash.trim(2), WornFlash.DONE);
        due("4: the fourth does", flash.trim(3), WornFlash.CUT);
        due("4: no entry is left, nor comes", flash.buffered(), 0);
        due("4: the first has its old value", flash.read(0), 100);
        due("4: the new one too", flash.holds(3), WornFlash.VALUE);
        due("4: again", flash.trim(3), WornFlash.DONE);
    }

    /** "Puts a trim to a sector, also if it holds nothing" */
    private static void trimOfASectorThatHoldsNothing() {
        WornFlash flash = new WornFlash(5, 1);
        due("4: of nothing", flash.trim(7), WornFlash.DONE);
        due("4: an entry", flash.buffered(), 1);
        due("4: it holds a trim", flash.holds(7), WornFlash.TRIMMED);
        due("4: no page yet", flash.place(7), WornFlash.NONE);
        due("4: flush", flash.flush(), WornFlash.DONE);
        due("4: a page", flash.operations(), 1);
        due("4: of the sector", flash.tag(0), 7);
        due("4: that is valid", flash.place(7), 0);
        due("4: and counts as such", flash.valid(0), 1);
        due("4: it holds a trim still", flash.holds(7), WornFlash.TRIMMED);
        due("4: and reads as 0", flash.read(7), 0);
    }

    private static void trimOfATrim() {
        WornFlash flash = new WornFlash(5, 1);
        flash.trim(7);
        due("4: in the buffer", flash.trim(7), WornFlash.DONE);
        due("4: one entry", flash.buffered(), 1);
        flash.flush();
        due("4: of a trimmed sector", flash.trim(7), WornFlash.DONE);
        due("4: an entry again", flash.buffered(), 1);
        flash.flush();
        due("4: a page again", flash.place(7), 1);
    }

    /** "Stores the first entry of the buffer until it is empty" */
    private static void flushOfAnEmptyBuffer() {
        WornFlash flash = new WornFlash(5, 1);
        flash.fuse(1);
        due("5: of a new object", flash.flush(), WornFlash.DONE);
        due("5: no operation", flash.operations(), 0);
        due("5: no block is open", flash.open(), WornFlash.NONE);
        flash.fuse(0);
        Runs.store(flash, 0, 4);
        flash.fuse(1);
        List<Integer> before = Runs.answers(flash, 5);
        due("5: with a full block open", flash.flush(), WornFlash.DONE);
        EXPECT.same("5: all answers", Runs.answers(flash, 5), before);
        flash.write(0, 1);
        due("5: the fuse stayed", flash.flush(), WornFlash.CUT);
        due("5: after a cut", flash.flush(), WornFlash.DONE);
    }

    private static void flushUntilEmpty() {
        for (int entries = 1; entries <= 3; entries++) {
            WornFlash flash = new WornFlash(5, 1);
            for (int i = 0; i < entries; i++) {
                flash.write(7 - i, i);
            }
            due("5: of " + entries, flash.flush(), WornFlash.DONE);
            due("5: empty", flash.buffered(), 0);
            due("5: a page each", flash.operations(), entries);
            for (int i = 0; i < 3; i++) {
                due("5: page " + i, flash.tag(i), i < entries ? 7 - i : WornFlash.NONE);
            }
        }
    }

    private static void flushOverTheEndOfABlock() {
        for (int pages = 2; pages <= 4; pages++) {
            WornFlash flash = new WornFlash(5, 1);
            Runs.store(flash, 0, pages);
            flash.write(1, 1);
            flash.write(2, 2);
            flash.write(3, 3);
            due("5: behind " + pages, flash.flush(), WornFlash.DONE);
            due("5: the next block is open", flash.open(), 1);
            due("5: the first entry", flash.place(1), pages);
            due("5: the last entry", flash.place(3), pages + 2);
        }
    }

    private static void flushThatCollects() {
        WornFlash flash = new WornFlash(5, 50);
        Runs.store(flash, 0, 15);
        flash.write(1, 1);
        flash.write(2, 2);
        flash.trim(3);
        due("5: collects between", flash.flush(), WornFlash.DONE);
        due("5: the first fills block 3", flash.place(1), 15);
        due("5: the second is behind it", flash.place(2), 16);
        due("5: the third too", flash.place(3), 17);
        due("5: block 0 was erased", flash.erasures(0), 1);
        due("5: three pages and an erasure", flash.operations(), 19);
    }

    private static void flushIsCut() {
        for (int n = 1; n <= 4; n++) {
            WornFlash flash = new WornFlash(5, 1);
            flash.write(5, 1);
            flash.write(6, 2);
            flash.write(7, 3);
            flash.fuse(n);
            due("5: with fuse " + n, flash.flush(), n <= 3 ? WornFlash.CUT : WornFlash.DONE);
            due("5: the buffer is empty", flash.buffered(), 0);
            due("5: those before were stored", flash.operations(), n - 1);
            for (int i = 0; i < 3; i++) {
                due("5: page " + i, flash.tag(i), i < n - 1 ? 5 + i : WornFlash.NONE);
            }
        }
    }

    /** "Cuts the power; the fuse stays as it is" */
    private static void cutLeavesTheFuse() {
        WornFlash flash = new WornFlash(5, 1);
        flash.fuse(3);
        Runs.store(flash, 0, 1);
        flash.cut();
        due("6: a cut is no operation", flash.operations(), 1);
        Runs.store(flash, 0, 1);
        flash.cut();
        flash.write(0, 9);
        due("6: the third operation", flash.flush(), WornFlash.CUT);
        due("6: was not done", flash.operations(), 2);
        flash.cut();
        Runs.store(flash, 0, 5);
        due("6: a fuse that is not set stays so", flash.operations(), 7);
    }

    private static void cutOfANewObject() {
        WornFlash flash = new WornFlash(5, 1);
        List<Integer> before = Runs.answers(flash, 5);
        flash.cut();
        EXPECT.same("6: all answers", Runs.answers(flash, 5), before);
        flash.write(0, 1);
        flash.write(1, 1);
        flash.trim(2);
        flash.cut();
        EXPECT.same("6: all answers, three entries lost", Runs.answers(flash, 5), before);
        Runs.store(flash, 0, 1);
        due("6: the first serial number is 0", flash.serial(0), 0);
    }

    private static void cutTwice() {
        WornFlash flash = new WornFlash(5, 1);
        Runs.fill(flash, 0, 4);
        flash.write(0, 1);
        flash.cut();
        List<Integer> once = Runs.answers(flash, 5);
        flash.cut();
        EXPECT.same("6: all answers", Runs.answers(flash, 5), once);
        due("6: the part block is open", flash.open(), 1);
    }

    /** "False, changing nothing, when n is not 0 .. 1000" */
    private static void fuseOutsideIsRefused() {
        WornFlash flash = new WornFlash(5, 1);
        for (int n : new int[] {-1, -2, -1000, MIN, 1001, 1002, 2000, MAX}) {
            EXPECT.no("7: fuse " + n, flash.fuse(n));
        }
        Runs.store(flash, 0, 10);
        due("7: it is not set", flash.operations(), 10);
    }

    private static void fuseRefusedChangesNothing() {
        for (int n : new int[] {-1, -2, -1000, MIN, 1001, 1002, 2000, MAX}) {
            WornFlash flash = new WornFlash(5, 1);
            Runs.store(flash, 0, 5);
            flash.trim(1);
            flash.fuse(2);
            List<Integer> before = Runs.answers(flash, 5);
            EXPECT.no("7: fuse " + n, flash.fuse(n));
            EXPECT.same("7: all answers", Runs.answers(flash, 5), before);
            due("7: the first operation", flash.flush(), WornFlash.DONE);
            flash.write(0, 9);
            EXPECT.no("7: fuse " + n + " once more", flash.fuse(n));
            due("7: the second", flash.flush(), WornFlash.CUT);
        }
    }

    /** "Sets the fuse to n" */
    private static void fuseAtTheEdgesIsTaken() {
        for (int n : new int[] {0, 1, 2, 999, 1000}) {
            EXPECT.yes("7: fuse " + n, new WornFlash(5, 1).fuse(n));
        }
        for (int n = 1; n <= 6; n++) {
            WornFlash flash = new WornFlash(5, 1);
            flash.fuse(n);
            Runs.store(flash, 0, n - 1);
            flash.write(1, 1);
            due("7: not before operation " + n, flash.operations(), n - 1);
            due("7: operation " + n, flash.flush(), WornFlash.CUT);
            due("7: is not done", flash.operations(), n - 1);
            Runs.store(flash, 0, n + 1);
            due("7: and no other one after it", flash.operations(), 2 * n);
        }
    }

    /** "or, if n is 0, to not set" */
    private static void fuseZeroIsNotSet() {
        WornFlash flash = new WornFlash(5, 1);
        EXPECT.yes("7: fuse 0 when it is not set", flash.fuse(0));
        Runs.store(flash, 0, 2);
        due("7: nothing is cut", flash.operations(), 2);
        flash.fuse(1);
        EXPECT.yes("7: fuse 0 when it is set", flash.fuse(0));
        Runs.store(flash, 0, 8);
        due("7: nothing is cut again", flash.operations(), 10);
    }

    private static void fuseIsSetAnew() {
        WornFlash flash = new WornFlash(5, 1);
        flash.fuse(1);
        flash.fuse(3);
        Runs.store(flash, 0, 2);
        due("7: a later one counts", flash.operations(), 2);
        flash.fuse(2);
        Runs.store(flash, 0, 1);
        due("7: from then on", flash.operations(), 3);
        flash.write(0, 5);
        due("7: its second", flash.flush(), WornFlash.CUT);
    }

    private static void fuseOfAThousandEnds() {
        for (int n = 999; n <= 1000; n++) {
            WornFlash flash = new WornFlash(12, 1);
            Random random = new Random(1);
            flash.fuse(n);
            int answer = WornFlash.DONE;
            for (int calls = 1; calls < 500 && answer == WornFlash.DONE; calls++) {
                answer = flash.write(random.nextInt(36), calls);
            }
            due("7: operation " + n, answer, WornFlash.CUT);
            due("7: is not done", flash.operations(), n - 1);
        }
    }

    /** "the value of its entry in the buffer, or else of its valid page" */
    private static void readPrefersTheBuffer() {
        WornFlash flash = new WornFlash(5, 1);
        Runs.store(flash, 3, 2);
        due("8: the valid page", flash.read(3), 2);
        flash.write(3, 7);
        due("8: the entry", flash.read(3), 7);
        flash.write(3, 0);
        due("8: an entry of 0", flash.read(3), 0);
        flash.cut();
        due("8: the valid page again", flash.read(3), 2);
        due("8: no entry of sector 0", flash.read(0), 0);
    }

    /** "0 for a trim, for nothing" */
    private static void readOfTrimAndNothing() {
        WornFlash flash = new WornFlash(5, 1);
        for (int sector = 0; sector < 8; sector++) {
            due("8: nothing in " + sector, flash.read(sector), 0);
        }
        Runs.store(flash, 3, 2);
        flash.trim(3);
        due("8: a trim in the buffer", flash.read(3), 0);
        flash.flush();
        due("8: a trim's page", flash.read(3), 0);
        flash.write(3, 5);
        flash.trim(3);
        due("8: a trim in place of a value", flash.read(3), 0);
    }

    /** "and when there is no such sector" */
    private static void readOfNoSuchSector() {
        for (int blocks = 5; blocks <= 12; blocks += 7) {
            WornFlash flash = new WornFlash(blocks, 1);
            int sectors = 4 * (blocks - 3);
            Runs.fill(flash, 0, sectors - 1);
            due("8: the first sector", flash.read(0), 100);
            due("8: the last sector", flash.read(sectors - 1), 100 + sectors - 1);
            flash.write(sectors, 5);
            flash.write(-1, 5);
            due("8: read " + sectors, flash.read(sectors), 0);
            for (int sector : NEVER) {
                due("8: read " + sector, flash.read(sector), 0);
            }
        }
    }

    /** "NOTHING, VALUE or TRIMMED, by the entry in the buffer or else the valid page" */
    private static void holdsPrefersTheBuffer() {
        WornFlash flash = new WornFlash(5, 1);
        for (int sector = 0; sector < 8; sector++) {
            due("9: holds " + sector, flash.holds(sector), WornFlash.NOTHING);
        }
        flash.write(3, 0);
        due("9: a value in the buffer", flash.holds(3), WornFlash.VALUE);
        flash.flush();
        due("9: a value's page", flash.holds(3), WornFlash.VALUE);
        flash.trim(3);
        due("9: a trim before a value's page", flash.holds(3), WornFlash.TRIMMED);
        flash.flush();
        due("9: a trim's page", flash.holds(3), WornFlash.TRIMMED);
        flash.write(3, 0);
        due("9: a value before a trim's page", flash.holds(3), WornFlash.VALUE);
        flash.cut();
        due("9: the trim's page again", flash.holds(3), WornFlash.TRIMMED);
        due("9: nothing in sector 0", flash.holds(0), WornFlash.NOTHING);
    }

    /** "NOTHING when there is no such sector." */
    private static void holdsOfNoSuchSector() {
        for (int blocks = 5; blocks <= 12; blocks += 7) {
            WornFlash flash = new WornFlash(blocks, 1);
            int sectors = 4 * (blocks - 3);
            Runs.fill(flash, 0, sectors - 1);
            due("9: the last sector", flash.holds(sectors - 1), WornFlash.VALUE);
            flash.write(sectors, 5);
            flash.trim(-1);
            due("9: holds " + sectors, flash.holds(sectors), WornFlash.NOTHING);
            for (int sector : NEVER) {
                due("9: holds " + sector, flash.holds(sector), WornFlash.NOTHING);
            }
        }
    }

    /** "How many entries the buffer has." */
    private static void bufferedFromNoneToThree() {
        WornFlash flash = new WornFlash(5, 1);
        due("10: none", flash.buffered(), 0);
        for (int sector = 0; sector < 8; sector++) {
            flash.write(sector, 1);
            due("10: after " + (sector + 1), flash.buffered(), Math.min(3, sector + 1));
            flash.trim(sector);
            due("10: no two of the same sector", flash.buffered(), Math.min(3, sector + 1));
        }
        flash.flush();
        due("10: none again", flash.buffered(), 0);
        flash.write(0, 1);
        flash.cut();
        due("10: none after a cut", flash.buffered(), 0);
    }

    /** "NONE when there is none" */
    private static void placeOfNothing() {
        WornFlash flash = new WornFlash(5, 1);
        for (int sector = 0; sector < 8; sector++) {
            due("11: place " + sector, flash.place(sector), WornFlash.NONE);
        }
        flash.write(0, 1);
        due("11: an entry has no page", flash.place(0), WornFlash.NONE);
        flash.cut();
        due("11: nor after a cut", flash.place(0), WornFlash.NONE);
        Runs.store(flash, 7, 1);
        due("11: the first place", flash.place(7), 0);
        Runs.store(flash, 7, 19);
        due("11: the last place", flash.place(7), 19);
        due("11: of another sector", flash.place(0), WornFlash.NONE);
    }

    /** "or no such sector" */
    private static void placeOfNoSuchSector() {
        for (int blocks = 5; blocks <= 12; blocks += 7) {
            WornFlash flash = new WornFlash(blocks, 1);
            int sectors = 4 * (blocks - 3);
            Runs.fill(flash, 0, sectors - 1);
            due("11: the last sector", flash.place(sectors - 1), sectors - 1);
            due("11: place " + sectors, flash.place(sectors), WornFlash.NONE);
            for (int sector : NEVER) {
                due("11: place " + sector, flash.place(sector), WornFlash.NONE);
            }
        }
    }

    /** A sector's pages 0 to 15, then the erasure of block 0 and page 16. */
    private static WornFlash withBlockZeroErased() {
        WornFlash flash = new WornFlash(5, 1);
        Runs.store(flash, 6, 17);
        return flash;
    }

    /** "NONE when it is erased" */
    private static void tagOfAnErasedPage() {
        WornFlash fresh = new WornFlash(5, 1);
        for (int place = 0; place < 20; place++) {
            due("12: tag " + place + " at first", fresh.tag(place), WornFlash.NONE);
        }
        fresh.write(0, 1);
        due("12: an entry has no page", fresh.tag(0), WornFlash.NONE);
        fresh.flush();
        due("12: sector 0 is a sector", fresh.tag(0), 0);
        WornFlash flash = withBlockZeroErased();
        for (int place = 0; place < 20; place++) {
            due("12: tag " + place, flash.tag(place), place >= 4 && place <= 16 ? 6 : WornFlash.NONE);
        }
    }

    /** "or there is no such place" */
    private static void tagOfNoSuchPlace() {
        WornFlash flash = new WornFlash(5, 1);
        Runs.store(flash, 6, 20);
        due("12: the last place", flash.tag(19), 6);
        due("12: tag 20", flash.tag(20), WornFlash.NONE);
        due("12: tag 21", flash.tag(21), WornFlash.NONE);
        for (int place : NEVER) {
            due("12: tag " + place, flash.tag(place), WornFlash.NONE);
        }
    }

    /** "NONE when it is erased" */
    private static void serialOfAnErasedPage() {
        WornFlash fresh = new WornFlash(5, 1);
        for (int place = 0; place < 20; place++) {
            due("13: serial " + place + " at first", fresh.serial(place), WornFlash.NONE);
        }
        Runs.store(fresh, 0, 1);
        due("13: 0 is a serial number", fresh.serial(0), 0);
        WornFlash flash = withBlockZeroErased();
        for (int place = 0; place < 20; place++) {
            due("13: serial " + place, flash.serial(place), place >= 4 && place <= 16 ? place : WornFlash.NONE);
        }
    }

    /** "or there is no such place" */
    private static void serialOfNoSuchPlace() {
        WornFlash flash = new WornFlash(5, 1);
        Runs.store(flash, 6, 20);
        due("13: the last place", flash.serial(19), 19);
        due("13: serial 20", flash.serial(20), WornFlash.NONE);
        due("13: serial 21", flash.serial(21), WornFlash.NONE);
        for (int place : NEVER) {
            due("13: serial " + place, flash.serial(place), WornFlash.NONE);
        }
    }

    /** "How many valid pages a block has" */
    private static void validFromNoneToFour() {
        WornFlash flash = new WornFlash(5, 1);
        for (int sector = 0; sector < 4; sector++) {
            due("14: of " + sector, flash.valid(0), sector);
            Runs.fill(flash, sector, sector);
        }
        due("14: of a full block", flash.valid(0), 4);
        for (int sector = 0; sector < 4; sector++) {
            flash.trim(sector);
            due("14: an entry takes none away", flash.valid(0), 4 - sector);
            flash.flush();
            due("14: a newer page does", flash.valid(0), 3 - sector);
            due("14: and is valid itself", flash.valid(1), sector + 1);
        }
        due("14: of a free block", flash.valid(4), 0);
    }

    /** "NONE when there is no such block." */
    private static void validOfNoSuchBlock() {
        for (int blocks = 5; blocks <= 12; blocks++) {
            WornFlash flash = new WornFlash(blocks, 1);
            Runs.fill(flash, 0, 7);
            due("14: the first block", flash.valid(0), 4);
            due("14: the last block", flash.valid(blocks - 1), 0);
            due("14: valid " + blocks, flash.valid(blocks), WornFlash.NONE);
            for (int block : NEVER) {
                due("14: valid " + block, flash.valid(block), WornFlash.NONE);
            }
        }
    }

    /** "How often a block was erased; NONE when there is no such block." */
    private static void erasuresOfNoSuchBlock() {
        for (int blocks = 5; blocks <= 12; blocks++) {
            WornFlash flash = new WornFlash(blocks, 50);
            Runs.store(flash, 0, 4 * blocks - 4);
            EXPECT.same("15: none yet", Runs.wear(flash, blocks), Collections.nCopies(blocks, 0));
            Runs.store(flash, 0, 1);
            due("15: the first block", flash.erasures(0), 1);
            due("15: the last block", flash.erasures(blocks - 1), 0);
            due("15: erasures " + blocks, flash.erasures(blocks), WornFlash.NONE);
            for (int block : NEVER) {
                due("15: erasures " + block, flash.erasures(block), WornFlash.NONE);
            }
        }
    }

    /** "The open block; NONE when none is." */
    private static void openWhenNoneIs() {
        WornFlash flash = new WornFlash(5, 1);
        due("16: at first", flash.open(), WornFlash.NONE);
        flash.write(0, 1);
        due("16: an entry opens none", flash.open(), WornFlash.NONE);
        flash.flush();
        due("16: block 0 is a block", flash.open(), 0);
        Runs.store(flash, 0, 3);
        due("16: a full block stays open", flash.open(), 0);
        flash.cut();
        due("16: after a cut it is not", flash.open(), WornFlash.NONE);
        Runs.store(flash, 0, 13);
        due("16: the last block", flash.open(), 4);
    }

    /** "How many blocks are free." */
    private static void freeFromAllToOne() {
        for (int blocks = 5; blocks <= 12; blocks++) {
            WornFlash flash = new WornFlash(blocks, 1);
            for (int stored = 0; stored < 8 * blocks; stored++) {
                int taken = (stored + 3) / 4;
                due("17: after " + stored, flash.free(), Math.max(1, blocks - taken));
                Runs.store(flash, 0, 1);
            }
        }
    }

    /** "How many operations there were." */
    private static void operationsThatWereNotDone() {
        WornFlash flash = new WornFlash(5, 1);
        flash.write(0, 1);
        flash.write(8, 1);
        flash.fuse(1);
        flash.cut();
        flash.flush();
        due("18: none", flash.operations(), 0);
        flash.write(0, 1);
        flash.flush();
        due("18: one that the fuse ended", flash.operations(), 0);
        Runs.store(flash, 0, 16);
        due("18: pages", flash.operations(), 16);
        flash.fuse(1);
        flash.write(0, 1);
        due("18: an erasure that the fuse ends", flash.flush(), WornFlash.CUT);
        due("18: is none", flash.operations(), 16);
        Runs.store(flash, 0, 1);
        due("18: an erasure and a page", flash.operations(), 18);
    }
}
