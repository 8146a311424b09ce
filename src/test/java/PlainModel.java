import java.util.ArrayList;
import java.util.Comparator;
import java.util.List;

/**
 * The document once more, as plainly as the Java library allows and with nothing of the program:
 * pages are objects, what is valid is looked up each time, and a cut is an exception.
 */
final class PlainModel {
    static final class Page {
        final int sector;
        final int value;
        final boolean trim;
        final int serial;

        Page(int sector, int value, boolean trim, int serial) {
            this.sector = sector;
            this.value = value;
            this.trim = trim;
            this.serial = serial;
        }
    }

    static final class Block {
        final int number;
        final List<Page> pages = new ArrayList<>();
        int erasures = 0;

        Block(int number) {
            this.number = number;
        }

        boolean isFull() {
            return pages.size() == 4;
        }
    }

    private static final class PowerIsCut extends Exception {
        private static final long serialVersionUID = 1L;
    }

    final List<Block> blocks = new ArrayList<>();
    final List<Page> buffer = new ArrayList<>();
    final int spread;
    final int sectors;
    Block open = null;
    int nextSerial = 0;
    int operations = 0;
    int fuse = 0;
    int roundsWithSecondVictim = 0;
    int collectionsAfterCut = 0;
    int collectionsForWear = 0;

    PlainModel(int blocks, int spread) {
        int count = blocks < 5 || blocks > 12 ? 8 : blocks;
        for (int i = 0; i < count; i++) {
            this.blocks.add(new Block(i));
        }
        this.spread = spread < 1 || spread > 50 ? 4 : spread;
        this.sectors = 4 * (count - 3);
    }

    int put(int sector, int value, boolean trim) {
        if (sector < 0 || sector >= sectors) {
            return -1;
        }
        Page entry = new Page(sector, trim ? 0 : value, trim, -1);
        for (int i = 0; i < buffer.size(); i++) {
            if (buffer.get(i).sector == sector) {
                buffer.set(i, entry);
                return 0;
            }
        }
        try {
            if (buffer.size() == 3) {
                storeFirst();
            }
        } catch (PowerIsCut cut) {
            losePower();
            return 1;
        }
        buffer.add(entry);
        return 0;
    }

    int flush() {
        try {
            while (!buffer.isEmpty()) {
                storeFirst();
            }
            return 0;
        } catch (PowerIsCut cut) {
            losePower();
            return 1;
        }
    }

    boolean setFuse(int n) {
        boolean fits = n >= 0 && n <= 1000;
        fuse = fits ? n : fuse;
        return fits;
    }

    void losePower() {
        buffer.clear();
        open = null;
        nextSerial = 0;
        for (Block block : blocks) {
            if (!block.pages.isEmpty() && !block.isFull()) {
                open = block;
            }
            for (Page page : block.pages) {
                nextSerial = Math.max(nextSerial, page.serial + 1);
            }
        }
        if (free().isEmpty()) {
            collectionsAfterCut++;
            try {
                collect(full().stream().min(byValid()).orElseThrow());
            } catch (PowerIsCut cut) {
                losePower();
            }
        }
    }

    Page validPage(int sector) {
        Page best = null;
        for (Block block : blocks) {
            for (Page page : block.pages) {
                if (page.sector == sector && (best == null || page.serial > best.serial)) {
                    best = page;
                }
            }
        }
        return best;
    }

    Page content(int sector) {
        for (Page entry : buffer) {
            if (entry.sector == sector) {
                return entry;
            }
        }
        return validPage(sector);
    }

    Page pageAt(int place) {
        if (place < 0 || place / 4 >= blocks.size()) {
            return null;
        }
        List<Page> pages = blocks.get(place / 4).pages;
        return place % 4 < pages.size() ? pages.get(place % 4) : null;
    }

    int placeOf(int sector) {
        Page page = validPage(sector);
        for (int place = 0; place < 4 * blocks.size(); place++) {
            if (page != null && pageAt(place) == page) {
                return place;
            }
        }
        return -1;
    }

    int countValid(Block block) {
        int count = 0;
        for (Page page : block.pages) {
            count += validPage(page.sector) == page ? 1 : 0;
        }
        return count;
    }

    List<Block> free() {
        return blocks.stream().filter(block -> block.pages.isEmpty()).toList();
    }

    private List<Block> full() {
        return blocks.stream().filter(Block::isFull).toList();
    }

    private static Comparator<Block> byErasures() {
        return Comparator.<Block>comparingInt(block -> block.erasures).thenComparingInt(block -> block.number);
    }

    private Comparator<Block> byValid() {
        return Comparator.<Block>comparingInt(this::countValid).thenComparing(byErasures());
    }

    private void storeFirst() throws PowerIsCut {
        Page first = buffer.get(0);
        boolean wearWasTheReason = false;
        int victims = 0;
        while (open == null || open.isFull()) {
            List<Block> free = free();
            open = free.stream().min(byErasures()).orElseThrow();
            if (free.size() > 1) {
                continue;
            }
            int most = blocks.stream().mapToInt(block -> block.erasures).max().orElseThrow();
            int least = blocks.stream().mapToInt(block -> block.erasures).min().orElseThrow();
            boolean forWear = !wearWasTheReason && most > least + spread;
            wearWasTheReason |= forWear;
            collectionsForWear += forWear ? 1 : 0;
            victims++;
            roundsWithSecondVictim += victims > 1 ? 1 : 0;
            collect(full().stream().min(forWear ? byErasures() : byValid()).orElseThrow());
        }
        program(first);
        buffer.remove(0);
    }

    private void collect(Block victim) throws PowerIsCut {
        for (Page page : List.copyOf(victim.pages)) {
            if (validPage(page.sector) == page) {
                program(page);
            }
        }
        operate();
        victim.pages.clear();
        victim.erasures++;
    }

    private void program(Page content) throws PowerIsCut {
        if (open == null || open.isFull()) {
            throw new IllegalStateException("the document says that there is room here");
        }
        operate();
        open.pages.add(new Page(content.sector, content.value, content.trim, nextSerial));
        nextSerial++;
    }

    private void operate() throws PowerIsCut {
        if (fuse == 1) {
            fuse = 0;
            throw new PowerIsCut();
        }
        fuse = Math.max(0, fuse - 1);
        operations++;
    }
}
