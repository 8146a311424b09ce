import java.util.Random;

/**
 * Long runs of calls, the same each time, whose answers are held against PlainModel. A run stays
 * within the 512 calls of the document: first calls that change something, then every question.
 */
public final class ModelTest {
    private static final int RUNS = 6000;
    private static final int MOST_CALLS = 512;
    private static final int MOST_SHOWN = 20;
    private static final Expect EXPECT = new Expect("ModelTest");

    private static int forWear = 0;
    private static int secondVictims = 0;
    private static int afterCuts = 0;

    public static void main(String[] args) {
        for (int run = 0; run < RUNS && EXPECT.wrongSoFar() < MOST_SHOWN; run++) {
            new ModelTest(run).go();
        }
        everyFuse();
        EXPECT.yes("the runs collect for wear", forWear > 1000);
        EXPECT.yes("the runs take a second victim", secondVictims > 100);
        EXPECT.yes("the runs collect after a cut", afterCuts > 1000);
        EXPECT.finish();
    }

    private final String name;
    private final Random random;
    private final WornFlash flash;
    private final PlainModel model;
    private final int hot;
    private final int fuses;

    private ModelTest(int run) {
        this(run, new Random(run));
    }

    private ModelTest(int run, Random random) {
        this.name = "run " + run + ": ";
        this.random = random;
        int blocks = random.nextInt(8) == 0 ? random.nextInt(20) - 2 : 5 + random.nextInt(8);
        int spread = random.nextInt(8) == 0 ? random.nextInt(60) - 4 : 1 + random.nextInt(4);
        this.flash = new WornFlash(blocks, spread);
        this.model = new PlainModel(blocks, spread);
        this.hot = 1 + random.nextInt(model.sectors);
        this.fuses = random.nextInt(3) == 0 ? 0 : 3 + random.nextInt(40);
    }

    private void go() {
        int questions = 3 * (model.sectors + 2) + 2 * (4 * model.blocks.size() + 2) + 2 * (model.blocks.size() + 2) + 5;
        int changes = MOST_CALLS - questions;
        if (random.nextInt(4) == 0) {
            changes = random.nextInt(changes);
        }
        if (random.nextBoolean()) {
            for (int sector = 0; sector < model.sectors && changes > 0; sector++, changes--) {
                change(0, sector);
            }
        }
        for (int i = 0; i < changes; i++) {
            change(random.nextInt(100), someSector());
        }
        askAll();
        forWear += model.collectionsForWear;
        secondVictims += model.roundsWithSecondVictim;
        afterCuts += model.collectionsAfterCut;
    }

    private int someSector() {
        int kind = random.nextInt(40);
        if (kind == 0) {
            return model.sectors + random.nextInt(3);
        }
        if (kind == 1) {
            return -1 - random.nextInt(3);
        }
        return random.nextInt(kind < 8 ? model.sectors : hot);
    }

    private void change(int kind, int sector) {
        if (fuses > 0 && random.nextInt(fuses) == 0) {
            int n = random.nextInt(30) == 0 ? random.nextInt(1100) - 40 : random.nextInt(14);
            EXPECT.equal(name + "fuse(" + n + ")", flash.fuse(n) ? 1 : 0, model.setFuse(n) ? 1 : 0);
        } else if (kind < 60) {
            int value = random.nextInt();
            EXPECT.equal(name + "write(" + sector + ")", flash.write(sector, value), model.put(sector, value, false));
        } else if (kind < 70) {
            EXPECT.equal(name + "trim(" + sector + ")", flash.trim(sector), model.put(sector, 0, true));
        } else if (kind < 98) {
            EXPECT.equal(name + "flush()", flash.flush(), model.flush());
        } else {
            flash.cut();
            model.losePower();
        }
        // Why CutOnceMoreTest cannot come to its cases by calls alone.
        EXPECT.no(name + "no block is free between two calls", model.free().isEmpty());
    }

    private void askAll() {
        EXPECT.equal(name + "sectors()", flash.sectors(), model.sectors);
        EXPECT.equal(name + "buffered()", flash.buffered(), model.buffer.size());
        EXPECT.equal(name + "open()", flash.open(), model.open == null ? -1 : model.open.number);
        EXPECT.equal(name + "free()", flash.free(), model.free().size());
        EXPECT.equal(name + "operations()", flash.operations(), model.operations);
        for (int sector = -1; sector <= model.sectors; sector++) {
            PlainModel.Page page = model.content(sector);
            int holds = page == null ? 0 : page.trim ? 2 : 1;
            EXPECT.equal(name + "read(" + sector + ")", flash.read(sector), page == null ? 0 : page.value);
            EXPECT.equal(name + "holds(" + sector + ")", flash.holds(sector), holds);
            EXPECT.equal(name + "place(" + sector + ")", flash.place(sector), model.placeOf(sector));
        }
        for (int place = -1; place <= 4 * model.blocks.size(); place++) {
            PlainModel.Page page = model.pageAt(place);
            EXPECT.equal(name + "tag(" + place + ")", flash.tag(place), page == null ? -1 : page.sector);
            EXPECT.equal(name + "serial(" + place + ")", flash.serial(place), page == null ? -1 : page.serial);
        }
        for (int block = -1; block <= model.blocks.size(); block++) {
            boolean there = block >= 0 && block < model.blocks.size();
            int valid = there ? model.countValid(model.blocks.get(block)) : -1;
            int erasures = there ? model.blocks.get(block).erasures : -1;
            EXPECT.equal(name + "valid(" + block + ")", flash.valid(block), valid);
            EXPECT.equal(name + "erasures(" + block + ")", flash.erasures(block), erasures);
        }
    }

    /** One run of stores for wear and copies, cut at each of its operations in turn. */
    private static void everyFuse() {
        for (int n = 1; n <= 300 && EXPECT.wrongSoFar() < MOST_SHOWN; n++) {
            for (int blocks = 5; blocks <= 6; blocks++) {
                ModelTest run = new ModelTest(n, blocks);
                run.flash.fuse(n);
                run.model.setFuse(n);
                for (int i = 0; i < 120; i++) {
                    int sector = i < run.model.sectors ? i : i % 9 == 0 ? i % 5 : 0;
                    EXPECT.equal(run.name + "write", run.flash.write(sector, i), run.model.put(sector, i, false));
                    EXPECT.equal(run.name + "flush", run.flash.flush(), run.model.flush());
                }
                run.askAll();
            }
        }
    }

    private ModelTest(int n, int blocks) {
        this.name = "fuse " + n + " of " + blocks + " blocks: ";
        this.random = null;
        this.flash = new WornFlash(blocks, 1);
        this.model = new PlainModel(blocks, 1);
        this.hot = 1;
        this.fuses = 0;
    }
}
