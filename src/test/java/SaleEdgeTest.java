/** Promises 7, 12 and 14 to 19 and chapters 3 and 4 of the terms at their edges: buyers, rings and sales. */
public final class SaleEdgeTest {
    private static final Check check = new Check("SaleEdgeTest");

    public static void main(String[] args) {
        endsOfBuyers();
        newBuyers();
        joining();
        whoBids();
        endsOfReserveAndStep();
        risingToALimit();
        risingRound();
        fallingFromTheTop();
        fallingToTheReserve();
        sealedAndTied();
        secondOrReserve();
        ringsOfMembers();
        ringsAndTheReserve();
        threeRings();
        pursesToTheEnd();
        soldForNothing();
        needs();
        coinsAreCut();
        indexes();
        savings();
        savingsAreCut();
        savingsOfSix();
        savingsOfARichRing();
        grudgesStayAt0();
        sharesAreUsed();
        sharesAddUp();
        sellingAgain();
        sessions();
        would();
        bestReserves();
        bestKinds();
        greatest();
        check.finish();
    }

    private static void outcome(WoolSale sale, int kind, int reserve, int step, int price, int buyer, int bidders) {
        String call = "kind " + kind + ", reserve " + reserve + ", step " + step + ": ";
        check.same(call + "price", sale.would(0, kind, reserve, step, 0), price);
        check.same(call + "buyer", sale.would(0, kind, reserve, step, 1), buyer);
        check.same(call + "bidders", sale.would(0, kind, reserve, step, 2), bidders);
    }

    private static void outcomes(WoolSale sale, int reserve, int step, int price, int buyer, int bidders) {
        for (int kind = 0; kind <= 3; kind++) {
            outcome(sale, kind, reserve, step, price, buyer, bidders);
        }
    }

    private static void endsOfBuyers() {
        WoolSale sale = new WoolSale();
        int[][] ends = {{0, 5}, {10000000, 5}, {5, 0}, {5, 100000}, {0, 0}, {10000000, 100000}};
        for (int b = 0; b < 6; b++) {
            check.same("addBuyer", sale.addBuyer(ends[b][0], ends[b][1]), b);
            check.same("buyers", sale.count(5), b + 1);
            check.same("purse", sale.buyer(b, 0), ends[b][0]);
            check.same("need", sale.buyer(b, 1), ends[b][1]);
        }
    }

    private static void newBuyers() {
        WoolSale sale = Check.saleOf(1);
        sale.addBuyer(7, 8);
        int[] due = {7, 8, 0, 0, -1, 0, 0, 0, -1};
        for (int what = 0; what < 9; what++) {
            check.same("new: buyer(0, " + what + ")", sale.buyer(0, what), due[what]);
        }
        check.same("no limit", sale.limit(0, 0), -1);
        outcomes(sale, 0, 1, -1, -1, 0);
        for (int ring = 0; ring <= 2; ring++) {
            check.same("in no ring", sale.ring(ring, 0), 0);
        }
    }

    private static void joining() {
        WoolSale sale = Check.saleOf(1, 1, 2, 3, 4, 5, 6);
        check.same("no ring at all", sale.join(0, -1), 0);
        for (int b = 0; b < 6; b++) {
            check.same("join the first ring", sale.join(b, 0), b + 1);
            check.same("set", sale.ring(0, 1), (1 << b + 1) - 1);
        }
        check.same("join once more", sale.join(5, 0), 6);
        for (int b = 0; b < 6; b++) {
            check.same("join the last ring", sale.join(b, 2), b + 1);
            check.same("members left", sale.ring(0, 0), 5 - b);
        }
        check.same("set of the first ring", sale.ring(0, 1), 0);
        check.same("set of the last ring", sale.ring(2, 1), 63);
        check.same("join the ring between", sale.join(5, 1), 1);
        check.same("its set", sale.ring(1, 1), 32);
        for (int b = 0; b < 6; b++) {
            check.same("leave", sale.join(b, -1), 0);
            check.same("ring", sale.buyer(b, 4), -1);
        }
        check.same("nobody left with a grudge", sale.count(9), 0);
    }

    private static void whoBids() {
        outcomes(Check.saleOf(1, 50), 50, 1, 50, 0, 1);
        outcomes(Check.saleOf(1, 50), 51, 1, -1, -1, 0);
        outcomes(Check.saleOf(1, 0), 0, 1, 0, 0, 1);
        outcomes(Check.saleOf(1, 0), 1, 1, -1, -1, 0);
        outcomes(Check.saleOf(1, -1), 0, 1, -1, -1, 0);
        outcome(Check.saleOf(1, 9999), 2, 5000, 100, 9999, 0, 1);
        outcomes(Check.saleOf(1, 4999), 5000, 100, -1, -1, 0);
        outcomes(Check.saleOf(1, 5000), 5000, 100, 5000, 0, 1);
        outcomes(Check.saleOf(1, -1, -1, -1, -1, -1, 50), 50, 1, 50, 5, 1);
        outcomes(Check.saleOf(1, 50, 50, 50, 50, 50, 50), 50, 1, 50, 0, 6);
    }

    private static void endsOfReserveAndStep() {
        int[][] ends = {{0, 1}, {0, 100}, {5000, 1}, {5000, 100}};
        for (int[] end : ends) {
            for (int kind = 0; kind <= 3; kind++) {
                WoolSale sale = Check.saleOf(1, 5000);
                int due = kind == 2 || end[0] == 5000 ? 5000 : kind == 1 ? 40 * end[1] : 0;
                check.same("sell by kind " + kind, sale.sell(0, kind, end[0], end[1]), due);
            }
        }
    }

    private static void risingToALimit() {
        outcome(Check.saleOf(1, 50, 60), 0, 40, 10, 50, 1, 2);
        outcome(Check.saleOf(1, 49, 60), 0, 40, 10, 50, 1, 2);
        outcome(Check.saleOf(1, 49, 49), 0, 40, 10, 40, 0, 2);
        outcome(Check.saleOf(1, 50, 50), 0, 40, 10, 50, 1, 2);
        outcome(Check.saleOf(1, 60, 50), 0, 40, 10, 60, 0, 2);
        outcome(Check.saleOf(1, 59, 50), 0, 40, 10, 50, 1, 2);
        outcome(Check.saleOf(1, 60, 49), 0, 40, 10, 40, 0, 2);
        // nobody raises against oneself
        outcome(Check.saleOf(1, 9999), 0, 0, 1, 0, 0, 1);
        // one who was below the reserve never bids, and one who dropped out never comes back
        outcome(Check.saleOf(1, 39, 60, 70), 0, 40, 1, 61, 2, 2);
        outcome(Check.saleOf(1, 40, 60, 70), 0, 40, 1, 60, 2, 3);
        outcome(Check.saleOf(1, 9999, 9999), 0, 5000, 100, 9900, 1, 2);
        outcome(Check.saleOf(1, 9999, 9999), 0, 0, 1, 9999, 1, 2);
        outcome(Check.saleOf(1, 9999, 9998), 0, 0, 1, 9998, 0, 2);
        outcome(Check.saleOf(1, 5000, 5099), 0, 5000, 100, 5000, 0, 2);
        outcome(Check.saleOf(1, 5000, 5100), 0, 5000, 100, 5100, 1, 2);
    }

    /** The next one is looked for behind the holder, and round to it. */
    private static void risingRound() {
        // 0 at 0, 1 at 10, 2 at 20, 0 at 30, and nobody pays 40
        outcome(Check.saleOf(1, 30, 30, 30), 0, 0, 10, 30, 0, 3);
        // 0 at 0, 1 at 10, 0 at 20, 1 at 30, as 2 doesn't bid
        outcome(Check.saleOf(1, 30, 30, -1), 0, 0, 10, 30, 1, 2);
        // 2 at 0, 5 at 10, 2 at 20
        outcome(Check.saleOf(1, -1, -1, 20, -1, -1, 10), 0, 0, 10, 20, 2, 2);
        outcome(Check.saleOf(1, -1, -1, 10, -1, -1, 20), 0, 0, 10, 10, 5, 2);
        // 0 at 0, 1 at 10, 2 at 20, and 1 at 30, as 0 has dropped out
        outcome(Check.saleOf(1, 0, 30, 20), 0, 0, 10, 30, 1, 3);
        // all six, one after the other, and once more round
        outcome(Check.saleOf(1, 50, 50, 50, 50, 50, 50), 0, 0, 10, 50, 5, 6);
        outcome(Check.saleOf(1, 60, 60, 60, 60, 60, 60), 0, 0, 10, 60, 0, 6);
        outcome(Check.saleOf(1, 10, 20, 30, 40, 50, 60), 0, 0, 10, 50, 5, 6);
        // 0 at 0, 1 at 10, 2 at 20, 3 at 30, 0 at 40, 1 at 50, 0 at 60
        outcome(Check.saleOf(1, 60, 50, 40, 30, 20, 10), 0, 0, 10, 60, 0, 6);
    }

    private static void fallingFromTheTop() {
        // it begins at 50 and 40 steps of 5
        outcome(Check.saleOf(1, 249), 1, 50, 5, 245, 0, 1);
        outcome(Check.saleOf(1, 250), 1, 50, 5, 250, 0, 1);
        outcome(Check.saleOf(1, 251), 1, 50, 5, 250, 0, 1);
        outcome(Check.saleOf(1, 9999), 1, 50, 5, 250, 0, 1);
        outcome(Check.saleOf(1, 250, 9999), 1, 50, 5, 250, 0, 2);
        outcome(Check.saleOf(1, 249, 9999), 1, 50, 5, 250, 1, 2);
        outcome(Check.saleOf(1, 9999), 1, 5000, 100, 9000, 0, 1);
        outcome(Check.saleOf(1, 8999), 1, 5000, 100, 8900, 0, 1);
        outcome(Check.saleOf(1, 9000), 1, 5000, 100, 9000, 0, 1);
        outcome(Check.saleOf(1, 9999), 1, 0, 1, 40, 0, 1);
    }

    private static void fallingToTheReserve() {
        outcome(Check.saleOf(1, 50), 1, 50, 5, 50, 0, 1);
        outcome(Check.saleOf(1, 54), 1, 50, 5, 50, 0, 1);
        outcome(Check.saleOf(1, 55), 1, 50, 5, 55, 0, 1);
        outcome(Check.saleOf(1, 49), 1, 50, 5, -1, -1, 0);
        // of those who are reached at once the smallest number has it, not the greatest limit
        outcome(Check.saleOf(1, 50, 54), 1, 50, 5, 50, 0, 2);
        outcome(Check.saleOf(1, 50, 55), 1, 50, 5, 55, 1, 2);
        outcome(Check.saleOf(1, 49, 54, 53), 1, 50, 5, 50, 1, 2);
        outcome(Check.saleOf(1, 0, 0), 1, 0, 100, 0, 0, 2);
    }

    private static void sealedAndTied() {
        outcome(Check.saleOf(1, 50, 51), 2, 50, 1, 51, 1, 2);
        outcome(Check.saleOf(1, 51, 50), 2, 50, 1, 51, 0, 2);
        outcome(Check.saleOf(1, 50, 50), 2, 50, 1, 50, 0, 2);
        outcome(Check.saleOf(1, 40, 50, 50, 40, 50, 50), 2, 50, 1, 50, 1, 4);
        outcome(Check.saleOf(1, 9998, 9999, 20000), 2, 5000, 1, 9999, 1, 3);
        outcome(Check.saleOf(1, 0, 0), 2, 0, 1, 0, 0, 2);
    }

    private static void secondOrReserve() {
        outcome(Check.saleOf(1, 60, 50), 3, 50, 1, 50, 0, 2);
        outcome(Check.saleOf(1, 60, 49), 3, 50, 1, 50, 0, 1);
        outcome(Check.saleOf(1, 60, 51), 3, 50, 1, 51, 0, 2);
        outcome(Check.saleOf(1, 60, 60), 3, 50, 1, 60, 0, 2);
        outcome(Check.saleOf(1, 59, 60), 3, 50, 1, 59, 1, 2);
        outcome(Check.saleOf(1, 60), 3, 50, 1, 50, 0, 1);
        outcome(Check.saleOf(1, 60), 3, 60, 1, 60, 0, 1);
        outcome(Check.saleOf(1, 60), 3, 0, 1, 0, 0, 1);
        outcome(Check.saleOf(1, 60, 0), 3, 0, 1, 0, 0, 2);
        outcome(Check.saleOf(1, 60, 0), 3, 1, 1, 1, 0, 1);
    }

    private static WoolSale ringed(int members, int... limits) {
        WoolSale sale = Check.saleOf(1, limits);
        for (int b = 0; b < members; b++) {
            sale.join(b, 0);
        }
        return sale;
    }

    private static void ringsOfMembers() {
        outcome(ringed(0, 70, 60, 50), 3, 0, 1, 60, 0, 3);
        outcome(ringed(1, 70, 60, 50), 3, 0, 1, 60, 0, 3);
        outcome(ringed(2, 70, 60, 50), 3, 0, 1, 50, 0, 2);
        outcome(ringed(3, 70, 60, 50), 3, 0, 1, 0, 0, 1);
        outcome(ringed(6, 50, 50, 60, 60, 60, 50), 2, 0, 1, 60, 2, 1);
        outcome(ringed(6, 50, 50, 50, 50, 50, 50), 2, 0, 1, 50, 0, 1);
        outcome(ringed(6, -1, -1, -1, -1, -1, 0), 2, 0, 1, 0, 5, 1);
        outcome(ringed(6, -1, -1, -1, -1, -1, -1), 2, 0, 1, -1, -1, 0);
        outcome(ringed(2, -1, -1, 50), 2, 0, 1, 50, 2, 1);
        outcome(ringed(2, 0, -1, 50), 2, 0, 1, 50, 2, 2);
        outcome(ringed(2, 60, 60, 60), 0, 10, 5, 60, 0, 2);
    }

    private static void ringsAndTheReserve() {
        outcome(ringed(2, 50, 60), 3, 60, 1, 60, 1, 1);
        outcome(ringed(2, 50, 60), 3, 61, 1, -1, -1, 0);
        outcome(ringed(2, 50, 60), 3, 50, 1, 50, 1, 1);
        outcome(ringed(2, 50, 60, 55), 3, 61, 1, -1, -1, 0);
        outcome(ringed(2, 50, 60, 55), 3, 56, 1, 56, 1, 1);
    }

    private static void threeRings() {
        WoolSale sale = Check.saleOf(1, 50, 60, 70, 70, 90, 80);
        for (int b = 0; b < 6; b++) {
            sale.join(b, b / 2);
        }
        outcome(sale, 3, 0, 1, 70, 4, 3);
        outcome(sale, 3, 61, 1, 70, 4, 2);
        outcome(sale, 3, 71, 1, 71, 4, 1);
        sale.join(4, -1);
        outcome(sale, 3, 0, 1, 80, 4, 4);
        sale.join(4, 0);
        outcome(sale, 3, 0, 1, 80, 4, 3);
    }

    /** A purse that the price takes whole; the clean weight is 60. */
    private static void pursesToTheEnd() {
        WoolSale sale = Check.saleOf(3);
        sale.addBuyer(600, 1000);
        Check.teach(sale, 0, "bid 11;");
        check.same("the reserve above purse / clean", sale.sell(0, 2, 11, 1), -1);
        check.same("purse", sale.buyer(0, 0), 600);
        check.same("all of the purse", sale.sell(0, 2, 10, 1), 10);
        check.same("purse", sale.buyer(0, 0), 0);
        check.same("paid", sale.buyer(0, 7), 600);
        check.same("a limit of 0", sale.limit(0, 1), 0);
        check.same("nothing above 0", sale.sell(1, 2, 1, 1), -1);
        check.same("for nothing", sale.sell(1, 2, 0, 1), 0);
        check.same("purse", sale.buyer(0, 0), 0);
        check.same("lots", sale.buyer(0, 3), 2);
        WoolSale left = Check.saleOf(1);
        left.addBuyer(659, 1000);
        Check.teach(left, 0, "bid 11;");
        check.same("what is left is less than the clean weight", left.sell(0, 2, 10, 1), 10);
        check.same("purse", left.buyer(0, 0), 59);
    }

    private static void soldForNothing() {
        for (int kind = 0; kind <= 3; kind++) {
            WoolSale sale = Check.saleOf(2, 0);
            check.same("sell", sale.sell(0, kind, 0, 1), 0);
            check.same("sold", sale.count(4), 1);
            check.same("paid", sale.count(7), 0);
            check.same("house", sale.count(8), 0);
            check.same("coins", sale.grower(0, 0), 0);
            check.same("sold bales", sale.grower(0, 2), 1);
            check.same("purse", sale.buyer(0, 0), 10000000);
            check.same("need", sale.buyer(0, 1), 99940);
            check.same("bought", sale.buyer(0, 2), 60);
            check.same("lots", sale.buyer(0, 3), 1);
            check.state("it is sold", () -> sale.sell(0, 2, 0, 1));
            check.same("the session offers the other one", sale.session(kind, 0, 1), 1);
        }
    }

    private static void ofNeed(int need, int due) {
        WoolSale sale = Check.saleOf(1);
        sale.addBuyer(1000, need);
        Check.teach(sale, 0, "bid 1;");
        sale.sell(0, 2, 0, 1);
        check.same("need of " + need + " behind 60", sale.buyer(0, 1), due);
        check.same("bought", sale.buyer(0, 2), 60);
    }

    private static void needs() {
        ofNeed(0, 0);
        ofNeed(1, 0);
        ofNeed(59, 0);
        ofNeed(60, 0);
        ofNeed(61, 1);
        ofNeed(100000, 99940);
    }

    private static void ofWeight(int part, int weight, int price, int coins) {
        WoolSale sale = new WoolSale();
        sale.addGrower();
        sale.bring(0, 20, 70, part, weight);
        sale.pool(0, 0, 1);
        sale.addBuyer(10000000, 0);
        Check.teach(sale, 0, "bid " + price + ";");
        check.same("sell", sale.sell(0, 2, 0, 1), price);
        check.same("coins", sale.grower(0, 0), coins);
        check.same("house", sale.count(8), sale.bale(0, 5) * price - coins);
    }

    private static void coinsAreCut() {
        ofWeight(40, 50, 1, 19);
        ofWeight(42, 50, 1, 19);
        ofWeight(44, 50, 1, 20);
        ofWeight(40, 50, 0, 0);
        ofWeight(80, 200, 9999, 1519848);
        // twice the clean weight 21: 19.95 each, cut for each bale by itself
        WoolSale sale = new WoolSale();
        sale.addGrower();
        sale.bring(0, 20, 70, 42, 50);
        sale.bring(0, 20, 70, 42, 50);
        sale.pool(0, 0, 2);
        sale.addBuyer(10000000, 0);
        Check.teach(sale, 0, "bid 1;");
        sale.sell(0, 2, 0, 1);
        check.same("coins of two bales", sale.grower(0, 0), 38);
        check.same("house", sale.count(8), 4);
    }

    private static void indexes() {
        WoolSale sale = Check.saleOf(8, 0);
        int[] prices = {0, 1, 0, 7, 9999, 0, 5000, 5000};
        int[] due = {0, 1, 0, 7, 2505, 1878, 2658, 3243};
        for (int lot = 0; lot < 8; lot++) {
            Check.teach(sale, 0, "bid " + prices[lot] + ";");
            sale.sell(lot, 2, 0, 1);
            check.same("index behind the price " + prices[lot], sale.index(6), due[lot]);
        }
        for (int micronClass = 4; micronClass <= 13; micronClass++) {
            check.same("only of its class", sale.index(micronClass), micronClass == 6 ? 3243 : 0);
        }
        int[][] ends = {{14, 4}, {40, 13}};
        for (int[] end : ends) {
            WoolSale other = new WoolSale();
            other.addGrower();
            other.bring(0, end[0], 70, 60, 100);
            other.pool(0, 0, 1);
            other.addBuyer(100000, 0);
            Check.teach(other, 0, "bid 44;");
            other.sell(0, 2, 45, 1);
            check.same("not sold", other.index(end[1]), 0);
            other.sell(0, 2, 44, 1);
            check.same("class " + end[1], other.index(end[1]), 44);
        }
    }

    /** Two in a ring, sold at the reserve: each gets half of what was saved. */
    private static void saved(int greatest, int other, int reserve, int due) {
        WoolSale sale = ringed(2, greatest, other);
        check.same("sell", sale.sell(0, 3, reserve, 1), reserve);
        String call = "limits " + greatest + " and " + other + ", price " + reserve + ": ";
        check.same(call + "got", sale.buyer(1, 6), due);
        check.same(call + "purse of the other one", sale.buyer(1, 0), 10000000 + due);
        check.same(call + "purse of the buyer", sale.buyer(0, 0), 10000000 - 60 * reserve - due);
        check.same(call + "shared", sale.ring(0, 3), due);
        check.same(call + "lots of the ring", sale.ring(0, 2), 1);
        check.same(call + "paid for lots", sale.buyer(0, 7), 60 * reserve);
        check.same(call + "got by the buyer", sale.buyer(0, 6), 0);
    }

    private static void savings() {
        saved(70, 51, 50, 30);
        saved(70, 50, 50, 0);
        saved(70, 49, 50, 0);
        saved(70, 0, 50, 0);
        saved(70, -1, 50, 0);
        saved(70, 70, 50, 600);
        saved(70, 70, 70, 0);
        saved(70, 1, 0, 30);
        saved(70, 0, 0, 0);
        saved(70, -1, 0, 0);
        saved(9999, 9999, 0, 299970);
    }

    private static void savingsAreCut() {
        WoolSale sale = new WoolSale();
        sale.addGrower();
        sale.bring(0, 20, 70, 42, 50);
        sale.pool(0, 0, 1);
        for (int b = 0; b < 5; b++) {
            sale.addBuyer(1000, 0);
            Check.teach(sale, b, "bid " + (b == 4 ? 20 : 11) + ";");
            sale.join(b, 2);
        }
        // the saving is 21 * 1, of which each of five gets 4, and the buyer keeps the rest
        check.same("sell", sale.sell(0, 3, 10, 1), 10);
        for (int b = 0; b < 4; b++) {
            check.same("got by " + b, sale.buyer(b, 6), 4);
            check.same("purse of " + b, sale.buyer(b, 0), 1004);
        }
        check.same("purse of the buyer", sale.buyer(4, 0), 1000 - 210 - 16);
        check.same("shared", sale.ring(2, 3), 16);
    }

    private static void savingsOfSix() {
        WoolSale sale = Check.saleOf(1);
        for (int b = 0; b < 6; b++) {
            sale.addBuyer(600, 0);
            Check.teach(sale, b, "bid 10;");
            sale.join(b, 1);
        }
        // the whole purse is saved, and five sixths of it are shared
        check.same("sell", sale.sell(0, 0, 0, 1), 0);
        check.same("purse of the buyer", sale.buyer(0, 0), 100);
        for (int b = 1; b < 6; b++) {
            check.same("got by " + b, sale.buyer(b, 6), 100);
            check.same("purse of " + b, sale.buyer(b, 0), 700);
            check.same("grudge of " + b, sale.buyer(b, 5), 0);
        }
        check.same("shared", sale.ring(1, 3), 500);
    }

    /** A purse may grow above what a new buyer may have. */
    private static void savingsOfARichRing() {
        WoolSale sale = new WoolSale();
        sale.addGrower();
        for (int i = 0; i < 12; i++) {
            sale.bring(0, 20, 70, 80, 200);
        }
        sale.pool(0, 0, 12);
        sale.addBuyer(10000000, 100000);
        sale.addBuyer(10000000, 100000);
        for (int b = 0; b < 2; b++) {
            Check.teach(sale, b, "bid 99999;");
            sale.join(b, 0);
        }
        check.same("10000000 / 1920", sale.limit(0, 0), 5208);
        check.same("sell", sale.sell(0, 1, 0, 1), 40);
        check.same("shared", sale.ring(0, 3), 5168 * 1920 / 2);
        check.same("purse of 1", sale.buyer(1, 0), 10000000 + 4961280);
        check.same("purse of 0", sale.buyer(0, 0), 10000000 - 76800 - 4961280);
    }

    private static void grudgesStayAt0() {
        WoolSale sale = Check.saleOf(8, 120, 110, 5, -1);
        for (int b = 0; b < 4; b++) {
            sale.join(b, 0);
        }
        for (int lot = 0; lot < 8; lot++) {
            check.same("sell", sale.sell(lot, lot % 4, 10, 20) >= 10 ? 1 : 0, 1);
            for (int b = 0; b < 4; b++) {
                check.same("grudge of " + b, sale.buyer(b, 5), 0);
            }
        }
        check.same("nobody left", sale.count(9), 0);
        check.same("members", sale.ring(0, 0), 4);
        check.same("a grudge of one who joins", sale.join(1, 0), 4);
        check.same("is 0", sale.buyer(1, 5), 0);
    }

    /** What was shared can be spent on the next lot. */
    private static void sharesAreUsed() {
        WoolSale sale = Check.saleOf(2);
        sale.addBuyer(1200, 1000);
        sale.addBuyer(600, 1000);
        Check.teach(sale, 0, "when bought=0 bid 20;pass;");
        Check.teach(sale, 1, "bid 9999;");
        sale.join(0, 0);
        sale.join(1, 0);
        check.same("limit ahead", sale.limit(1, 1), 10);
        check.same("sell", sale.sell(0, 0, 0, 1), 0);
        check.same("limit behind 300 more", sale.limit(1, 1), 15);
        check.same("one without a limit is a member, too", sale.sell(1, 2, 15, 1), 15);
        check.same("purse", sale.buyer(1, 0), 0);
        check.same("lots of the ring", sale.ring(0, 2), 2);
    }

    private static void sharesAddUp() {
        WoolSale sale = Check.saleOf(3, 70, 60, 50);
        sale.join(0, 1);
        sale.join(1, 1);
        for (int lot = 0; lot < 3; lot++) {
            // 10 * 60 is saved each time, of which the other one gets half
            check.same("sell", sale.sell(lot, 3, 50, 1), 50);
            check.same("got by 1", sale.buyer(1, 6), 300 * (lot + 1));
            check.same("purse of 1", sale.buyer(1, 0), 10000000 + 300 * (lot + 1));
            check.same("purse of 0", sale.buyer(0, 0), 10000000 - 3300 * (lot + 1));
            check.same("paid by 0", sale.buyer(0, 7), 3000 * (lot + 1));
            check.same("shared", sale.ring(1, 3), 300 * (lot + 1));
            check.same("lots of the ring", sale.ring(1, 2), lot + 1);
            check.same("paid in all", sale.count(7), 3000 * (lot + 1));
            check.same("house", sale.count(8), 150 * (lot + 1));
        }
    }

    private static void sellingAgain() {
        WoolSale sale = Check.saleOf(1, 50);
        for (int i = 1; i <= 5; i++) {
            check.same("not sold", sale.sell(0, i % 4, 51, 1), -1);
            check.same("offered", sale.lot(0, 9), i);
        }
        check.same("sold", sale.sell(0, 1, 50, 1), 50);
        check.same("offered", sale.lot(0, 9), 6);
        check.state("sold", () -> sale.sell(0, 1, 50, 1));
        check.same("offered", sale.lot(0, 9), 6);
    }

    private static void sessions() {
        check.same("no lots", Check.saleOf(0, 50).session(0, 0, 1), 0);
        check.same("no buyers", Check.saleOf(3).session(0, 0, 1), 0);
        WoolSale none = Check.saleOf(3, 50);
        check.same("none is sold", none.session(0, 51, 1), 0);
        for (int lot = 0; lot < 3; lot++) {
            check.same("all were offered", none.lot(lot, 9), 1);
        }
        check.same("all are sold", none.session(0, 50, 1), 3);
        check.same("none is left", none.session(0, 50, 1), 0);
        for (int lot = 0; lot < 3; lot++) {
            check.same("not offered again", none.lot(lot, 9), 2);
        }
        WoolSale full = Check.saleOf(30, 50);
        Check.teach(full, 0, "bid turn;");
        check.same("thirty lots from 1 on", full.session(2, 1, 1), 29);
        check.same("the first one", full.lot(0, 7), -1);
        check.same("the last one", full.lot(29, 8), 29);
        check.same("thirty lots", full.session(2, 0, 1), 1);
        check.same("sold", full.count(4), 30);
        WoolSale purse = Check.saleOf(5);
        purse.addBuyer(60 * 30, 1000);
        Check.teach(purse, 0, "bid 10;");
        check.same("till the purse is empty", purse.session(2, 1, 1), 3);
        check.same("the first three", purse.lot(2, 7) - purse.lot(3, 7), 1);
    }

    private static void would() {
        WoolSale sale = Check.saleOf(30, 50, 40, 30);
        long digest = sale.digest();
        check.same("the last lot: price", sale.would(29, 3, 0, 1, 0), 40);
        check.same("the last lot: buyer", sale.would(29, 3, 0, 1, 1), 0);
        check.same("the last lot: bidders", sale.would(29, 3, 0, 1, 2), 3);
        check.same("one bids", sale.would(0, 3, 50, 1, 2), 1);
        check.same("nobody bids: price", sale.would(0, 3, 51, 1, 0), -1);
        check.same("nobody bids: buyer", sale.would(0, 3, 51, 1, 1), -1);
        check.same("nobody bids: bidders", sale.would(0, 3, 51, 1, 2), 0);
        check.same("nothing is changed", sale.digest(), digest);
        check.same("sell brings what was told", sale.sell(29, 3, 0, 1), 40);
    }

    private static void bestReserves() {
        check.same("1000", Check.saleOf(1, 1000).bestReserve(0, 3, 1), 1000);
        check.same("999", Check.saleOf(1, 999).bestReserve(0, 3, 1), 980);
        check.same("1020", Check.saleOf(1, 1020).bestReserve(0, 3, 1), 1000);
        check.same("20", Check.saleOf(1, 20).bestReserve(0, 3, 1), 20);
        check.same("19", Check.saleOf(1, 19).bestReserve(0, 3, 1), 0);
        check.same("0", Check.saleOf(1, 0).bestReserve(0, 0, 1), 0);
        check.same("no limit", Check.saleOf(1, -1).bestReserve(0, 0, 1), -1);
        check.same("no buyer", Check.saleOf(1).bestReserve(0, 0, 1), -1);
        check.same("the least of several", Check.saleOf(1, 500).bestReserve(0, 2, 1), 0);
        check.same("rising: 20 above is as good as 0", Check.saleOf(1, 100, 100).bestReserve(0, 0, 20), 0);
        // 40 steps of 1 above the reserve reach 1000 from 960 on
        check.same("falling", Check.saleOf(1, 1000).bestReserve(0, 1, 1), 960);
        check.same("falling, to 1040", Check.saleOf(1, 9999).bestReserve(0, 1, 1), 1000);
        check.same("falling by 100", Check.saleOf(1, 50).bestReserve(0, 1, 100), 40);
        WoolSale sale = Check.saleOf(30, 30);
        long digest = sale.digest();
        check.same("the last lot", sale.bestReserve(29, 0, 100), 20);
        check.same("nothing is changed", sale.digest(), digest);
    }

    private static void bestKinds() {
        check.same("no lots", Check.saleOf(0, 50).bestKind(0, 1), -1);
        check.same("no buyers", Check.saleOf(1).bestKind(0, 1), -1);
        check.same("nobody bids", Check.saleOf(1, 50).bestKind(51, 1), -1);
        check.same("all bring the reserve", Check.saleOf(1, 50).bestKind(50, 1), 0);
        check.same("falling and sealed bring 1", Check.saleOf(1, 1).bestKind(0, 1), 1);
        check.same("sealed brings more than 40", Check.saleOf(1, 41).bestKind(0, 1), 2);
        check.same("falling brings as much as 40", Check.saleOf(1, 40).bestKind(0, 1), 1);
        check.same("greatest reserve and step", Check.saleOf(1, 9999).bestKind(5000, 100), 2);
        check.same("all are sold for nothing", Check.saleOf(3, 0).bestKind(0, 1), -1);
        WoolSale sold = Check.saleOf(1, 50);
        sold.sell(0, 2, 0, 1);
        check.same("all are sold", sold.bestKind(0, 1), -1);
        // who pays 20 for the first lot has nothing left for the others;
        // rising: 6, 6, 6; falling and sealed: 20, 0, 5; second: 5, 5, 5
        WoolSale poor = Check.saleOf(3);
        poor.addBuyer(1200, 0);
        poor.addBuyer(300, 0);
        Check.teach(poor, 0, "bid 20;");
        Check.teach(poor, 1, "when turn=0 bid 5;when index<20 bid 5;bid 0;");
        long digest = poor.digest();
        check.same("falling", poor.bestKind(0, 1), 1);
        check.same("falling, though two lots are not sold", poor.bestKind(5, 5), 1);
        check.same("nothing is changed", poor.digest(), digest);
    }

    /** The dearest lot there can be, at each kind; no number wraps around. */
    private static void greatest() {
        for (int kind = 0; kind <= 3; kind++) {
            WoolSale sale = new WoolSale();
            sale.addGrower();
            for (int i = 0; i < 6; i++) {
                sale.bring(0, 40, 120, 80, 200);
            }
            sale.pool(0, 0, 12);
            sale.addBuyer(10000000, 100000);
            sale.addBuyer(10000000, 100000);
            Check.teach(sale, 0, "bid 99999;");
            Check.teach(sale, 1, "bid 99999;");
            // 10000000 / 960
            int due = kind == 0 ? 9900 : kind == 1 ? 9000 : 9999;
            check.same("sell by kind " + kind, sale.sell(0, kind, 5000, 100), due);
            check.same("paid", sale.count(7), 960 * due);
            check.same("coins", sale.grower(0, 0), 6 * (due * 160 * 95 / 100));
            check.same("index", sale.index(13), due);
        }
    }
}
