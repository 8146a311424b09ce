import java.util.ArrayList;
import java.util.List;

/** Short ways to say what many runs have in common; hot pages are stored one at a time. */
final class Runs {
    private Runs() {
    }

    /** Writes the values 1, 2, .. to one sector and stores each at once. */
    static void store(WornFlash flash, int sector, int times) {
        for (int i = 1; i <= times; i++) {
            flash.write(sector, i);
            flash.flush();
        }
    }

    /** Writes 100 + sector to the sectors from .. to, and stores them in this order. */
    static void fill(WornFlash flash, int from, int to) {
        for (int sector = from; sector <= to; sector++) {
            flash.write(sector, 100 + sector);
        }
        flash.flush();
    }

    /** Every answer that a question can have, in one row: two rows differ if anything differs. */
    static List<Integer> answers(WornFlash flash, int blocks) {
        List<Integer> row = new ArrayList<>();
        row.add(flash.buffered());
        row.add(flash.open());
        row.add(flash.free());
        row.add(flash.operations());
        for (int sector = 0; sector < 4 * (blocks - 3); sector++) {
            row.add(flash.read(sector));
            row.add(flash.holds(sector));
            row.add(flash.place(sector));
        }
        for (int place = 0; place < 4 * blocks; place++) {
            row.add(flash.tag(place));
            row.add(flash.serial(place));
        }
        for (int block = 0; block < blocks; block++) {
            row.add(flash.valid(block));
            row.add(flash.erasures(block));
        }
        return row;
    }

    static List<Integer> wear(WornFlash flash, int blocks) {
        List<Integer> row = new ArrayList<>();
        for (int block = 0; block < blocks; block++) {
            row.add(flash.erasures(block));
        }
        return row;
    }

    static List<Integer> tags(WornFlash flash, int block) {
        List<Integer> row = new ArrayList<>();
        for (int place = 4 * block; place < 4 * block + 4; place++) {
            row.add(flash.tag(place));
        }
        return row;
    }

    static List<Integer> serials(WornFlash flash, int block) {
        List<Integer> row = new ArrayList<>();
        for (int place = 4 * block; place < 4 * block + 4; place++) {
            row.add(flash.serial(place));
        }
        return row;
    }
}
