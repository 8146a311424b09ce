import java.util.Random;

/** One method a promise: ordinary inputs, the edges that the document names, and wrong inputs. */
public final class PromisesTest {
    private static final int[] WRONG = {Integer.MIN_VALUE, -1000, -2, -1, Integer.MAX_VALUE};
    private static final Expect EXPECT = new Expect("PromisesTest");

    public static void main(String[] args) {
        promise1NewObject();
        promise1Spread();
        promise2Sectors();
        promise3Write();
        promise4Trim();
        promise5Flush();
        promise6Cut();
        promise7Fuse();
        promise8Read();
        promise9Holds();
        promise10Buffered();
        promise11Place();
        promise12Tag();
        promise13Serial();
        promise14Valid();
        promise15Erasures();
        promise16Open();
        promise17Free();
        promise18Operations();
        EXPECT.finish();
    }

    private static void due(String what, long got, long due) {
        EXPECT.equal(what, got, due);
    }

    /** Writes to a sector and stores it at once, some times over. */
    private static void store(WornFlash flash, int sector, int times) {
        for (int i = 0; i < times; i++) {
            due("write(" + sector + ", " + i + ")", flash.write(sector, i), WornFlash.DONE);
            due("flush()", flash.flush(), WornFlash.DONE);
        }
    }

    private static void promise1NewObject() {
        int[] asked = {5, 6, 7, 8, 9, 10, 11, 12, 4, 13, 0, -1, Integer.MIN_VALUE, Integer.MAX_VALUE};
        for (int blocks : asked) {
            WornFlash flash = new WornFlash(blocks, 4);
            int due = blocks >= 5 && blocks <= 12 ? blocks : 8;
            String name = "1: of " + blocks + " blocks: ";
            due(name + "free", flash.free(), due);
            due(name + "the last block", flash.valid(due - 1), 0);
            due(name + "no block behind it", flash.valid(due), WornFlash.NONE);
            due(name + "open", flash.open(), WornFlash.NONE);
            due(name + "buffered", flash.buffered(), 0);
            due(name + "operations", flash.operations(), 0);
            for (int place = -1; place <= 4 * due; place++) {
                due(name + "tag " + place, flash.tag(place), WornFlash.NONE);
            }
        }
    }

    /**
     * The spread shows in how often a hot sector's blocks were erased before a cold block is: the
     * cold block 0 is taken as soon as some block has spread + 1 erasures.
     */
    private static void promise1Spread() {
        int[] asked = {1, 2, 4, 9, 0, 51, -1, Integer.MIN_VALUE, Integer.MAX_VALUE};
        for (int spread : asked) {
            int due = spread >= 1 && spread <= 50 ? spread : 4;
            due("1: spread " + spread, wearWhenColdBlockIsErased(spread, 200), due + 1);
        }
        due("1: spread 50 is not reached here", wearWhenColdBlockIsErased(50, 200), WornFlash.NONE);
    }

    /** The greatest wear just before block 0 is erased; a new object each time, for its 512 calls. */
    private static int wearWhenColdBlockIsErased(int spread, int mostStores) {
        int before = 0;
        for (int stores = 1; stores <= mostStores; stores++) {
            WornFlash flash = withHotSector(spread, stores);
            if (flash.erasures(0) > 0) {
                return before;
            }
            for (int block = 1; block < 5; block++) {
                before = Math.max(before, flash.erasures(block));
            }
        }
        return WornFlash.NONE;
    }

    private static WornFlash withHotSector(int spread, int stores) {
        WornFlash flash = new WornFlash(5, spread);
        for (int sector = 0; sector < 8; sector++) {
            flash.write(sector, sector);
        }
        flash.flush();
        for (int i = 0; i < stores; i++) {
            flash.write(7, i);
            flash.flush();
        }
        return flash;
    }

    private static void promise2Sectors() {
        for (int blocks = 5; blocks <= 12; blocks++) {
            WornFlash flash = new WornFlash(blocks, 1);
            due("2: sectors of " + blocks, flash.sectors(), 4 * (blocks - 3));
            store(flash, 0, 5);
            due("2: sectors later", flash.sectors(), 4 * (blocks - 3));
        }
        due("2: sectors of 4", new WornFlash(4, 1).sectors(), 20);
        due("2: sectors of 13", new WornFlash(13, 1).sectors(), 20);
    }

    private static void promise3Write() {
        WornFlash flash = new WornFlash(5, 1);
        due("3: first", flash.write(0, 10), WornFlash.DONE);
        due("3: second", flash.write(7, -5), WornFlash.DONE);
        due("3: third", flash.write(2, 12), WornFlash.DONE);
        due("3: nothing stored yet", flash.operations(), 0);
        due("3: again, in its place", flash.write(0, 20), WornFlash.DONE);
        due("3: still nothing stored", flash.operations(), 0);
        due("3: fourth", flash.write(3, 13), WornFlash.DONE);
        due("3: the first was stored", flash.operations(), 1);
        due("3: it was sector 0", flash.tag(0), 0);
        due("3: with its newer value", flash.read(0), 20);
        due("3: three are left", flash.buffered(), 3);
        due("3: an old one anew", flash.write(0, 30), WornFlash.DONE);
        due("3: the next was stored", flash.tag(1), 7);
        due("3: flush", flash.flush(), WornFlash.DONE);
        due("3: third page", flash.tag(2), 2);
        due("3: fourth page", flash.tag(3), 3);
        due("3: fifth page", flash.tag(4), 0);
        due("3: value", flash.read(7), -5);
        refusesWrongSectors(new WornFlash(5, 1), 8);
        refusesWrongSectors(new WornFlash(12, 1), 36);
        cutsWhenTheFuseEnds();
    }

    private static void refusesWrongSectors(WornFlash flash, int sectors) {
        for (int i = 0; i < 3; i++) {
            flash.write(i, i);
        }
        flash.fuse(1);
        for (int sector : WRONG) {
            due("3: write to " + sector, flash.write(sector, 1), WornFlash.REFUSED);
            due("4: trim of " + sector, flash.trim(sector), WornFlash.REFUSED);
        }
        due("3: write behind the last", flash.write(sectors, 1), WornFlash.REFUSED);
        due("4: trim behind the last", flash.trim(sectors), WornFlash.REFUSED);
        due("3: the buffer is as it was", flash.buffered(), 3);
        due("3: nothing was stored", flash.operations(), 0);
        flash.fuse(0);
        due("3: the last sector", flash.write(sectors - 1, 77), WornFlash.DONE);
        due("3: its value", flash.read(sectors - 1), 77);
    }

    private static void cutsWhenTheFuseEnds() {
        WornFlash flash = new WornFlash(5, 1);
        flash.fuse(1);
        flash.write(0, 1);
        flash.write(1, 2);
        flash.write(2, 3);
        due("3: in its place needs no page", flash.write(1, 4), WornFlash.DONE);
        due("3: cut", flash.write(3, 5), WornFlash.CUT);
        due("3: all of the buffer is lost", flash.buffered(), 0);
        due("3: and what was put", flash.holds(3), WornFlash.NOTHING);
        due("3: no page was programmed", flash.tag(0), WornFlash.NONE);
    }

    private static void promise4Trim() {
        WornFlash flash = new WornFlash(6, 1);
        due("4: of nothing", flash.trim(5), WornFlash.DONE);
        due("4: it waits", flash.buffered(), 1);
        due("4: holds", flash.holds(5), WornFlash.TRIMMED);
        due("4: flush", flash.flush(), WornFlash.DONE);
        due("4: it takes a page", flash.tag(0), 5);
        due("4: it is valid", flash.place(5), 0);
        flash.write(5, 9);
        due("4: of an entry", flash.trim(5), WornFlash.DONE);
        due("4: one entry", flash.buffered(), 1);
        due("4: holds trim", flash.holds(5), WornFlash.TRIMMED);
        due("4: reads 0", flash.read(5), 0);
        flash.write(5, 8);
        due("4: a value on a trim", flash.holds(5), WornFlash.VALUE);
        due("4: its value", flash.read(5), 8);
        flash.flush();
        flash.trim(5);
        flash.flush();
        due("4: stored trim holds", flash.holds(5), WornFlash.TRIMMED);
        due("4: stored trim reads", flash.read(5), 0);
        flash.trim(0);
        flash.trim(1);
        flash.trim(2);
        flash.fuse(1);
        due("4: cut", flash.trim(3), WornFlash.CUT);
        due("4: trim is lost", flash.holds(0), WornFlash.NOTHING);
    }

    private static void promise5Flush() {
        WornFlash flash = new WornFlash(5, 1);
        due("5: of nothing", flash.flush(), WornFlash.DONE);
        due("5: no operation", flash.operations(), 0);
        flash.write(4, 1);
        flash.write(2, 2);
        flash.trim(6);
        due("5: of three", flash.flush(), WornFlash.DONE);
        due("5: first page", flash.tag(0), 4);
        due("5: second page", flash.tag(1), 2);
        due("5: third page", flash.tag(2), 6);
        due("5: empty", flash.buffered(), 0);
        due("5: three operations", flash.operations(), 3);
        flash.write(0, 1);
        flash.write(1, 2);
        flash.write(2, 3);
        flash.fuse(2);
        due("5: cut at the second", flash.flush(), WornFlash.CUT);
        due("5: the first was stored", flash.tag(3), 0);
        due("5: the second was not", flash.place(1), WornFlash.NONE);
        due("5: the third has its old value", flash.read(2), 2);
        due("5: all lost", flash.buffered(), 0);
        due("5: operations", flash.operations(), 4);
        due("5: goes on", flash.flush(), WornFlash.DONE);
    }

    private static void promise6Cut() {
        WornFlash flash = new WornFlash(5, 1);
        flash.cut();
        due("6: a new one has no open block", flash.open(), WornFlash.NONE);
        store(flash, 3, 3);
        flash.write(3, 50);
        flash.trim(4);
        flash.fuse(2);
        flash.cut();
        due("6: buffer", flash.buffered(), 0);
        due("6: the stored value is left", flash.read(3), 2);
        due("6: the trim is lost", flash.holds(4), WornFlash.NOTHING);
        due("6: the open block is the part one", flash.open(), 0);
        due("6: no operation", flash.operations(), 3);
        store(flash, 3, 1);
        due("6: the serial numbers go on", flash.serial(3), 3);
        flash.cut();
        due("6: a full block is not open", flash.open(), WornFlash.NONE);
        due("6: blocks stay free", flash.free(), 4);
        flash.write(0, 1);
        due("6: the fuse stayed as it was", flash.flush(), WornFlash.CUT);
        due("6: operations", flash.operations(), 4);
        store(flash, 1, 1);
        due("6: the next serial number", flash.serial(4), 4);
        due("6: the next block", flash.open(), 1);
    }

    private static void promise7Fuse() {
        WornFlash flash = new WornFlash(5, 1);
        for (int n : WRONG) {
            EXPECT.no("7: fuse " + n, flash.fuse(n));
        }
        EXPECT.no("7: fuse 1001", flash.fuse(1001));
        EXPECT.yes("7: fuse 1000", flash.fuse(1000));
        EXPECT.yes("7: fuse 2", flash.fuse(2));
        EXPECT.no("7: refused", flash.fuse(1001));
        EXPECT.no("7: refused below", flash.fuse(-1));
        store(flash, 0, 1);
        flash.write(0, 9);
        due("7: the second operation ends it", flash.flush(), WornFlash.CUT);
        due("7: it was not done", flash.operations(), 1);
        store(flash, 0, 3);
        due("7: it is not set any more", flash.operations(), 4);
        EXPECT.yes("7: fuse 1", flash.fuse(1));
        EXPECT.yes("7: fuse 0", flash.fuse(0));
        store(flash, 0, 3);
        due("7: not set by 0", flash.operations(), 7);
        flash.fuse(2);
        store(flash, 0, 1);
        flash.fuse(3);
        store(flash, 0, 2);
        flash.write(0, 5);
        due("7: counted from the last setting on", flash.flush(), WornFlash.CUT);
        endsAfterAThousand();
    }

    private static void endsAfterAThousand() {
        WornFlash flash = new WornFlash(12, 1);
        Random random = new Random(1);
        flash.fuse(1000);
        int answer = WornFlash.DONE;
        for (int calls = 1; calls < 500 && answer == WornFlash.DONE; calls++) {
            answer = flash.write(random.nextInt(36), calls);
        }
        due("7: a thousand is reached", answer, WornFlash.CUT);
        due("7: and counted whole", flash.operations(), 999);
    }

    private static void promise8Read() {
        WornFlash flash = new WornFlash(5, 1);
        due("8: nothing", flash.read(0), 0);
        flash.write(0, Integer.MIN_VALUE);
        flash.write(1, Integer.MAX_VALUE);
        due("8: from the buffer", flash.read(0), Integer.MIN_VALUE);
        flash.flush();
        due("8: least, from its page", flash.read(0), Integer.MIN_VALUE);
        due("8: greatest, from its page", flash.read(1), Integer.MAX_VALUE);
        flash.write(0, 5);
        due("8: the buffer goes first", flash.read(0), 5);
        flash.trim(0);
        due("8: trim in the buffer", flash.read(0), 0);
        flash.cut();
        due("8: the page again", flash.read(0), Integer.MIN_VALUE);
        store(flash, 0, 3);
        due("8: the newest page", flash.read(0), 2);
        flash.trim(0);
        flash.flush();
        due("8: trim page", flash.read(0), 0);
        for (int sector : WRONG) {
            due("8: read " + sector, flash.read(sector), 0);
        }
        due("8: read behind the last", flash.read(8), 0);
    }

    private static void promise9Holds() {
        WornFlash flash = new WornFlash(5, 1);
        due("9: nothing", flash.holds(7), WornFlash.NOTHING);
        flash.write(7, 0);
        due("9: value 0 in the buffer", flash.holds(7), WornFlash.VALUE);
        flash.flush();
        due("9: value 0 on its page", flash.holds(7), WornFlash.VALUE);
        flash.trim(7);
        due("9: trim in the buffer", flash.holds(7), WornFlash.TRIMMED);
        flash.cut();
        due("9: value again", flash.holds(7), WornFlash.VALUE);
        flash.trim(7);
        flash.flush();
        due("9: trim on its page", flash.holds(7), WornFlash.TRIMMED);
        flash.write(7, 1);
        due("9: the buffer goes first", flash.holds(7), WornFlash.VALUE);
        for (int sector : WRONG) {
            due("9: holds " + sector, flash.holds(sector), WornFlash.NOTHING);
        }
        due("9: holds behind the last", flash.holds(8), WornFlash.NOTHING);
    }

    private static void promise10Buffered() {
        WornFlash flash = new WornFlash(5, 1);
        due("10: none", flash.buffered(), 0);
        flash.write(0, 1);
        due("10: one", flash.buffered(), 1);
        flash.write(0, 2);
        due("10: still one", flash.buffered(), 1);
        flash.trim(1);
        due("10: two", flash.buffered(), 2);
        flash.write(2, 1);
        due("10: three", flash.buffered(), 3);
        flash.write(3, 1);
        due("10: still three", flash.buffered(), 3);
        flash.flush();
        due("10: none after flush", flash.buffered(), 0);
    }

    private static void promise11Place() {
        WornFlash flash = new WornFlash(5, 1);
        due("11: none", flash.place(3), WornFlash.NONE);
        flash.write(3, 1);
        due("11: none for an entry", flash.place(3), WornFlash.NONE);
        flash.flush();
        due("11: the first page", flash.place(3), 0);
        store(flash, 3, 5);
        due("11: the newest page", flash.place(3), 5);
        flash.trim(3);
        due("11: not yet moved", flash.place(3), 5);
        flash.flush();
        due("11: a trim's page", flash.place(3), 6);
        flash.cut();
        due("11: after a cut", flash.place(3), 6);
        for (int sector : WRONG) {
            due("11: place " + sector, flash.place(sector), WornFlash.NONE);
        }
        due("11: place behind the last", flash.place(8), WornFlash.NONE);
    }

    private static void promise12Tag() {
        WornFlash flash = new WornFlash(5, 1);
        flash.write(6, 1);
        due("12: not stored yet", flash.tag(0), WornFlash.NONE);
        flash.write(0, 1);
        flash.trim(7);
        flash.flush();
        due("12: first", flash.tag(0), 6);
        due("12: sector 0", flash.tag(1), 0);
        due("12: a trim", flash.tag(2), 7);
        due("12: erased", flash.tag(3), WornFlash.NONE);
        store(flash, 6, 18);
        due("12: no longer valid, still programmed", flash.tag(12), 6);
        due("12: erased again", flash.tag(8), WornFlash.NONE);
        for (int place : WRONG) {
            due("12: tag " + place, flash.tag(place), WornFlash.NONE);
        }
        due("12: the last place", flash.tag(19), 6);
        due("12: tag behind the last", flash.tag(20), WornFlash.NONE);
    }

    private static void promise13Serial() {
        WornFlash flash = new WornFlash(5, 1);
        due("13: erased", flash.serial(0), WornFlash.NONE);
        store(flash, 0, 16);
        for (int place = 0; place < 16; place++) {
            due("13: serial " + place, flash.serial(place), place);
        }
        due("13: not yet", flash.serial(16), WornFlash.NONE);
        store(flash, 0, 4);
        due("13: serial 19", flash.serial(19), 19);
        due("13: erased again", flash.serial(0), WornFlash.NONE);
        for (int place : WRONG) {
            due("13: serial " + place, flash.serial(place), WornFlash.NONE);
        }
        due("13: serial behind the last", flash.serial(20), WornFlash.NONE);
    }

    private static void promise14Valid() {
        WornFlash flash = new WornFlash(5, 1);
        for (int block = 0; block < 5; block++) {
            due("14: valid " + block, flash.valid(block), 0);
        }
        flash.write(0, 1);
        flash.trim(1);
        flash.write(2, 1);
        due("14: entries do not count", flash.valid(0), 0);
        flash.flush();
        due("14: a trim counts", flash.valid(0), 3);
        store(flash, 0, 1);
        due("14: an old page does not", flash.valid(0), 3);
        store(flash, 1, 1);
        due("14: less in the old block", flash.valid(0), 2);
        due("14: more in the new one", flash.valid(1), 1);
        flash.write(2, 5);
        due("14: an entry takes nothing away", flash.valid(0), 2);
        for (int block : WRONG) {
            due("14: valid " + block, flash.valid(block), WornFlash.NONE);
        }
        due("14: valid behind the last", flash.valid(5), WornFlash.NONE);
    }

    private static void promise15Erasures() {
        WornFlash flash = new WornFlash(5, 50);
        store(flash, 0, 16);
        for (int block = 0; block < 5; block++) {
            due("15: erasures " + block, flash.erasures(block), 0);
        }
        store(flash, 0, 1);
        due("15: the first block", flash.erasures(0), 1);
        due("15: no other", flash.erasures(1), 0);
        store(flash, 0, 20);
        due("15: in their turn", flash.erasures(0), 2);
        for (int block = 1; block < 5; block++) {
            due("15: in its turn " + block, flash.erasures(block), 1);
        }
        flash.cut();
        due("15: a cut does not change it", flash.erasures(0), 2);
        for (int block : WRONG) {
            due("15: erasures " + block, flash.erasures(block), WornFlash.NONE);
        }
        due("15: erasures behind the last", flash.erasures(5), WornFlash.NONE);
    }

    private static void promise16Open() {
        WornFlash flash = new WornFlash(5, 1);
        due("16: none", flash.open(), WornFlash.NONE);
        flash.write(0, 1);
        due("16: none for an entry", flash.open(), WornFlash.NONE);
        flash.flush();
        due("16: the first", flash.open(), 0);
        store(flash, 0, 3);
        due("16: full and still open", flash.open(), 0);
        store(flash, 0, 1);
        due("16: the second", flash.open(), 1);
        flash.cut();
        due("16: the part one after a cut", flash.open(), 1);
        store(flash, 0, 3);
        flash.cut();
        due("16: none after a cut", flash.open(), WornFlash.NONE);
        flash.fuse(1);
        flash.write(0, 1);
        due("16: cut at its first page", flash.flush(), WornFlash.CUT);
        due("16: a free block is not open", flash.open(), WornFlash.NONE);
    }

    private static void promise17Free() {
        WornFlash flash = new WornFlash(12, 1);
        due("17: all", flash.free(), 12);
        flash.write(0, 1);
        due("17: all while it waits", flash.free(), 12);
        flash.flush();
        due("17: one less", flash.free(), 11);
        store(flash, 0, 3);
        due("17: still", flash.free(), 11);
        store(flash, 0, 1);
        due("17: two less", flash.free(), 10);
        store(flash, 0, 39);
        due("17: the last one stays free", flash.free(), 1);
        store(flash, 0, 50);
        due("17: and always does", flash.free(), 1);
    }

    private static void promise18Operations() {
        WornFlash flash = new WornFlash(5, 50);
        due("18: none", flash.operations(), 0);
        store(flash, 0, 16);
        due("18: a page each", flash.operations(), 16);
        store(flash, 0, 1);
        due("18: a page and an erasure", flash.operations(), 18);
        store(flash, 0, 3);
        due("18: pages again", flash.operations(), 21);
        flash.fuse(1);
        flash.write(0, 1);
        due("18: cut before the erasure", flash.flush(), WornFlash.CUT);
        due("18: what is not done does not count", flash.operations(), 21);
        WornFlash copying = new WornFlash(5, 50);
        copying.write(1, 1);
        copying.flush();
        for (int block = 0; block < 4; block++) {
            copying.write(2 + block, 1);
            copying.flush();
            store(copying, 0, block == 0 ? 2 : 3);
        }
        due("18: before it collects", copying.operations(), 16);
        store(copying, 0, 1);
        due("18: a copy, an erasure and a page", copying.operations(), 19);
    }
}
