import java.util.ArrayList;
import java.util.Comparator;
import java.util.List;
import java.util.Random;

/** Promises 3 (rule: the rotation), 4 (wants), 9 (order) and 10 (allowed). */
public final class OrderTest {
    public static void main(String[] args) {
        rotations();
        likeASortedList();
        onlyWhatMayBeTaken();
        wrongOrders();
        allowedDays();
        wantedDays();
        wrongRules();
        Check.end();
    }

    private static void rotations() {
        LotRules x = new LotRules();
        x.lot(1, 2, 500, 400);
        x.lot(1, 2, 450, 410);
        x.lot(1, 2, 500, 390);
        x.lot(1, 2, 450, 410);
        x.lot(1, 2, 600, 390);
        inOrder(x, "at first", 2, 4, 3, 1, 5);
        x.rule(2, 0, 1);
        inOrder(x, "arrived first", 3, 5, 1, 2, 4);
        x.rule(2, 0, 2);
        inOrder(x, "arrived last", 4, 2, 1, 5, 3);
        x.rule(3, 0, 1);
        inOrder(x, "another owner's rule", 4, 2, 1, 5, 3);
        x.rule(2, 1, 1);
        inOrder(x, "a mixture is no rotation", 4, 2, 1, 5, 3);
        x.rule(2, 0, 0);
        inOrder(x, "good for the shortest", 2, 4, 3, 1, 5);
    }

    private static void inOrder(LotRules x, String what, int... due) {
        for (int i = 0; i < due.length; i++) {
            Check.same(what + ": order " + i, x.order(1, 2, i), due[i]);
        }
        Check.same(what + ": past the end", x.order(1, 2, due.length), -1);
    }

    private static void likeASortedList() {
        Random random = new Random(9);
        for (int run = 0; run < 30; run++) {
            LotRules x = new LotRules();
            List<int[]> lots = new ArrayList<>();
            for (int lot = 1; lot <= 40; lot++) {
                int arrived = random.nextInt(4);
                int until = 4 + random.nextInt(4);
                x.lot(0, 0, until, arrived);
                lots.add(new int[] {until, arrived, lot});
            }
            Comparator<int[]> byArrival = Comparator.<int[]>comparingInt(l -> l[1]).thenComparingInt(l -> l[2]);
            List<Comparator<int[]>> rotations = List.of(
                    Comparator.<int[]>comparingInt(l -> l[0]).thenComparing(byArrival),
                    byArrival,
                    byArrival.reversed());
            for (int rotation = 0; rotation < 3; rotation++) {
                x.rule(0, 0, rotation);
                lots.sort(rotations.get(rotation));
                for (int i = 0; i < 40; i++) {
                    Check.same("rotation " + rotation + ", order " + i, x.order(0, 0, i), lots.get(i)[2]);
                }
            }
        }
    }

    private static void onlyWhatMayBeTaken() {
        LotRules x = new LotRules();
        for (int lot = 1; lot <= 6; lot++) {
            x.lot(0, 0, 10, 0);
        }
        x.lot(1, 0, 10, 0);
        x.lot(0, 1, 10, 0);
        x.block(1, 1);
        x.quarantine(3, true);
        x.join(4, 5);
        int[] due = {2, 4, 6, -1};
        for (int i = 0; i < due.length; i++) {
            Check.same("what may be taken: order " + i, x.order(0, 0, i), due[i]);
        }
        Check.same("another good", x.order(1, 0, 0), 7);
        Check.same("another owner", x.order(0, 1, 0), 8);
        Check.same("no lot of both", x.order(1, 1, 0), -1);
        Check.same("far past the end", x.order(0, 0, Integer.MAX_VALUE), -1);
    }

    private static void wrongOrders() {
        LotRules x = new LotRules();
        x.lot(0, 0, 10, 0);
        int[][] wrong = {{-1, 0, 0}, {10, 0, 0}, {0, -1, 0}, {0, 8, 0}, {0, 0, -1}, {0, 0, Integer.MIN_VALUE}};
        for (int[] w : wrong) {
            Check.refused(x, "order(" + w[0] + ", " + w[1] + ", " + w[2] + ")", Check.ARGUMENT,
                    () -> x.order(w[0], w[1], w[2]));
        }
        Check.same("the last good and owner", x.order(9, 7, 0), -1);
    }

    private static void allowedDays() {
        LotRules x = new LotRules();
        x.lot(0, 0, 110, 100);
        Check.holds("before the arrival", !x.allowed(1, 0, 99));
        Check.holds("at the arrival", x.allowed(1, 0, 100));
        Check.holds("at the last day", x.allowed(1, 0, 110));
        Check.holds("behind the last day", !x.allowed(1, 0, 111));
        x.lot(0, 0, 110, 100);
        x.join(1, 2);
        Check.holds("not open", !x.allowed(2, 0, 105));
        x.lot(0, 0, 36524, 0);
        Check.holds("day 0", x.allowed(3, 0, 0));
        Check.holds("the last of all days", x.allowed(3, 0, 36524));
        for (int customer : new int[] {-1, 8}) {
            Check.refused(x, "allowed(1, " + customer + ", 0)", Check.ARGUMENT, () -> x.allowed(1, customer, 0));
        }
        for (int day : new int[] {-1, 36525}) {
            Check.refused(x, "allowed(1, 0, " + day + ")", Check.ARGUMENT, () -> x.allowed(1, 0, day));
        }
        for (int lot : new int[] {-1, 0, 4, 41}) {
            Check.refused(x, "allowed(" + lot + ", 8, -1)", Check.NO_SUCH, () -> x.allowed(lot, 8, -1));
        }
    }

    private static void wantedDays() {
        LotRules x = new LotRules();
        x.lot(0, 0, 2000, 100);
        x.wants(7, 11);
        Check.holds("eleven days, both counted", x.allowed(1, 7, 1990));
        Check.holds("ten days", !x.allowed(1, 7, 1991));
        Check.holds("another customer", x.allowed(1, 6, 2000));
        x.wants(7, 1000);
        Check.holds("a thousand days", x.allowed(1, 7, 1001));
        Check.holds("a day less", !x.allowed(1, 7, 1002));
        x.wants(7, 1);
        Check.holds("one day", x.allowed(1, 7, 2000));
    }

    private static void wrongRules() {
        LotRules x = new LotRules();
        x.lot(0, 7, 50, 20);
        x.lot(0, 7, 60, 10);
        Check.same("owner 7 at first", x.order(0, 7, 0), 1);
        x.rule(7, 0, 1);
        Check.same("owner 7 has a rule", x.order(0, 7, 0), 2);
        int[][] wrong = {
            {-1, 0, 0}, {8, 0, 0}, {0, -1, 0}, {0, 2, 0}, {0, 0, -1}, {0, 0, 3}, {0, 1, -1}, {0, 1, 1001},
        };
        for (int[] w : wrong) {
            Check.refused(x, "rule(" + w[0] + ", " + w[1] + ", " + w[2] + ")", Check.ARGUMENT,
                    () -> x.rule(w[0], w[1], w[2]));
        }
        int[][] wrongWants = {{-1, 1}, {8, 1}, {0, 0}, {0, -1}, {0, 1001}};
        for (int[] w : wrongWants) {
            Check.refused(x, "wants(" + w[0] + ", " + w[1] + ")", Check.ARGUMENT, () -> x.wants(w[0], w[1]));
        }
    }
}
