import java.lang.reflect.Field;
import java.lang.reflect.Method;
import java.util.List;

/**
 * Promise 6: "the fuse stays as it is, but operations of collecting are counted by it (if it ends
 * there, the power is cut once more)". After every call of the face a block is free, so cut() finds
 * nothing to collect; here a page is programmed behind the face's back, which leaves the flash as
 * the first copy of a collection does.
 */
public final class CutOnceMoreTest {
    private static final int NONE = WornFlash.NONE;
    private static final int COLLECTING = 2;
    private static final Expect EXPECT = new Expect("CutOnceMoreTest");

    public static void main(String[] args) throws ReflectiveOperationException {
        withoutAFuse();
        fuseEndsAtTheCopy();
        fuseEndsAtTheErasure();
        fuseEndsLater();
        nothingToCopyAndNoneOpen();
        EXPECT.finish();
    }

    private static void due(String what, long got, long due) {
        EXPECT.equal(what, got, due);
    }

    /**
     * Five blocks. Valid are 3 in block 0, 6 and 7 in 1, 1 and 5 in 2, 0 and 4 in 3, and 2, which
     * was copied from block 0, in 4; no block is free. An entry waits in the buffer.
     */
    private static WornFlash amidACollection() throws ReflectiveOperationException {
        WornFlash flash = new WornFlash(5, 50);
        Runs.fill(flash, 0, 7);
        for (int sector : new int[] {0, 1, 4, 5, 0, 4, 0, 4}) {
            Runs.fill(flash, sector, sector);
        }
        program(flash, 4, 2, 102);
        flash.write(6, -1);
        due("no block is free", flash.free(), 0);
        due("operations so far", flash.operations(), 17);
        return flash;
    }

    private static void program(WornFlash flash, int block, int sector, int value)
            throws ReflectiveOperationException {
        Field field = WornFlash.class.getDeclaredField("flash");
        field.setAccessible(true);
        Object inside = field.get(flash);
        Method program = inside.getClass().getDeclaredMethod("program", int.class, int.class, int.class, int.class);
        program.setAccessible(true);
        program.invoke(inside, block, sector, value, WornFlash.VALUE);
    }

    /** Block 0 is collected in the end, wherever the fuse ended. */
    private static void dueCollected(String what, WornFlash flash) {
        due(what + ": the buffer", flash.buffered(), 0);
        due(what + ": one is free", flash.free(), 1);
        due(what + ": block 0 was erased", flash.erasures(0), 1);
        due(what + ": 4 is open", flash.open(), 4);
        EXPECT.same(what + ": its sectors", Runs.tags(flash, 4), List.of(2, 3, NONE, NONE));
        EXPECT.same(what + ": its serials", Runs.serials(flash, 4), List.of(16, 17, NONE, NONE));
        due(what + ": what is not done is not counted", flash.operations(), 17 + COLLECTING);
        for (int sector = 0; sector < 8; sector++) {
            due(what + ": nothing is lost", flash.read(sector), 100 + sector);
        }
    }

    /** The fuse has to let so many operations pass before it ends; then it is not set any more. */
    private static void dueFuseLeft(String what, WornFlash flash, int passing) {
        for (int i = 0; i < passing; i++) {
            flash.write(0, i);
            due(what + ": operation " + i, flash.flush(), WornFlash.DONE);
        }
        flash.write(0, -1);
        due(what + ": the last", flash.flush(), WornFlash.CUT);
    }

    private static void dueFuseNotSet(String what, WornFlash flash) {
        for (int i = 0; i < 40; i++) {
            flash.write(i % 8, i);
            due(what + ": the fuse is not set", flash.flush(), WornFlash.DONE);
        }
    }

    private static void withoutAFuse() throws ReflectiveOperationException {
        WornFlash flash = amidACollection();
        flash.cut();
        dueCollected("no fuse", flash);
        dueFuseNotSet("no fuse", flash);
    }

    private static void fuseEndsAtTheCopy() throws ReflectiveOperationException {
        WornFlash flash = amidACollection();
        flash.fuse(1);
        flash.cut();
        dueCollected("fuse 1", flash);
        dueFuseNotSet("fuse 1", flash);
    }

    private static void fuseEndsAtTheErasure() throws ReflectiveOperationException {
        WornFlash flash = amidACollection();
        flash.fuse(2);
        flash.cut();
        dueCollected("fuse 2", flash);
        dueFuseNotSet("fuse 2", flash);
    }

    private static void fuseEndsLater() throws ReflectiveOperationException {
        for (int passing = 0; passing < 2; passing++) {
            String what = "fuse " + (COLLECTING + passing + 1);
            WornFlash flash = amidACollection();
            flash.fuse(COLLECTING + passing + 1);
            flash.cut();
            dueCollected(what, flash);
            dueFuseLeft(what, flash, passing);
        }
    }

    /** All of block 0 was copied and 4 is full: its erasure alone is left, and the fuse ends it. */
    private static void nothingToCopyAndNoneOpen() throws ReflectiveOperationException {
        for (int n = 0; n < 2; n++) {
            WornFlash flash = new WornFlash(5, 50);
            Runs.fill(flash, 0, 3);
            Runs.store(flash, 7, 12);
            for (int sector = 0; sector < 4; sector++) {
                program(flash, 4, sector, 100 + sector);
            }
            due("no block is free", flash.free(), 0);
            flash.fuse(n);
            flash.cut();
            due("block 0 was erased", flash.erasures(0), 1);
            due("one is free", flash.free(), 1);
            due("none is open", flash.open(), NONE);
            due("sixteen pages, four copies and an erasure", flash.operations(), 21);
            dueFuseNotSet("an erasure alone", flash);
        }
    }
}
