public final class ReadmeExample {
    public static void main(String[] args) {
        LotRules rules = new LotRules();

        // Good 3 of owner 1: it arrived on 15 November 2026 and is good until 31 December 2026.
        int lot = rules.lot(3, 1, rules.day(0, 261231), rules.day(0, 261115));
        int later = rules.lot(3, 1, rules.day(0, 270131), rules.day(0, 261114));
        int unit = rules.unit(lot);
        int other = rules.unit(later);
        System.out.println("taken first: lot " + rules.order(3, 1, 0));

        // Owner 1 mixes no last days at first, so the two units may not lie in one bin.
        rules.put(unit, 5);
        try {
            rules.put(other, 5);
        } catch (IllegalStateException e) {
            System.out.println("lot " + rules.mixed(0) + " may not lie with lot " + rules.mixed(1));
        }

        // Reason 4 blocks the lot until a person releases it who may do so.
        rules.right(2, 4, true);
        rules.block(lot, 4);
        System.out.println("taken first: lot " + rules.order(3, 1, 0));
        System.out.println("reasons released: " + rules.release(lot, 2));

        // Customer 0 wants 30 days to be left, the day of going and the last one counted.
        rules.wants(0, 30);
        int today = rules.day(1, 201126);
        if (rules.allowed(lot, 0, today)) {
            rules.ship(unit, 0, today);
        }
        System.out.println("unit " + unit + " went on " + rules.date(0, rules.where(unit, 3)));

        // A recall reaches the units of a lot's family, the one that went, too.
        int part = rules.split(lot);
        rules.unit(part);
        for (int i = 0; rules.recall(lot, i) != -1; i++) {
            System.out.println("recalled: unit " + rules.recall(lot, i));
        }
        for (int i = 0; i < 6; i++) {
            System.out.println("row " + i + ": " + rules.history(lot, i, 0) + " " + rules.history(lot, i, 1));
        }
    }
}
