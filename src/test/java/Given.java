import java.util.stream.IntStream;

/** What many tests begin with; all of it stays well under the 512 calls that an object is good for. */
final class Given {
    private Given() {
    }

    /** So many lots that are alike: good 0 of owner 0, good from day 50 to day 60. */
    static LotRules lots(int many) {
        LotRules x = new LotRules();
        for (int lot = 1; lot <= many; lot++) {
            x.lot(0, 0, 60, 50);
        }
        return x;
    }

    /** A lot for each of these last days, of good 0 and owner 0, arrived at day 0, each with the unit of its number. */
    static LotRules unitsWithLastDays(int... lastDays) {
        LotRules x = new LotRules();
        for (int lastDay : lastDays) {
            x.unit(x.lot(0, 0, lastDay, 0));
        }
        return x;
    }

    /** Takes a lot into quarantine and out of it until there are so many rows of history. */
    static void fillRows(LotRules x, int lot, int rows) {
        boolean on = x.told(lot, 6) == 0;
        for (int written = x.count(2); written < rows; written++) {
            x.quarantine(lot, on);
            on = !on;
        }
    }

    /** Numbers that are not least .. most: beside its ends, the extremes, and what a shift, a byte or a short folds into it. */
    static int[] outside(int least, int most) {
        return IntStream.of(least - 1, most + 1, Integer.MIN_VALUE, Integer.MAX_VALUE, -1, least + 32, most + 32,
                        least + 256, most - 256, least + 65536, most - 65536, Integer.MIN_VALUE + least)
                .filter(number -> number < least || number > most)
                .distinct()
                .toArray();
    }
}
