/** Promises 7, 12 and 14 to 19: buyers, rings, sales, and what they would bring. */
public final class SaleTest {
    private static final Check check = new Check("SaleTest");

    public static void main(String[] args) {
        buyers();
        buyersRefused();
        joining();
        rising();
        falling();
        sealed();
        second();
        nobodyBids();
        ringsBid();
        paying();
        index();
        sharing();
        sharingBelowThePrice();
        ringsOfOne();
        selling();
        sessions();
        would();
        bestReserve();
        bestKind();
        bestKindOfNone();
        trialsChangeNothing();
        check.finish();
    }

    private static void buyers() {
        WoolSale sale = new WoolSale();
        for (int i = 0; i < 6; i++) {
            check.same("addBuyer", sale.addBuyer(i == 0 ? 0 : 10000000, i == 0 ? 0 : 100000), i);
        }
        check.state("the 7th buyer", () -> sale.addBuyer(5, 5));
        check.argument("the 7th buyer, and purse wrong", () -> sale.addBuyer(-1, 5));
        check.same("buyers", sale.count(5), 6);
        int[] due = {10000000, 100000, 0, 0, -1, 0, 0, 0, -1};
        for (int what = 0; what < 9; what++) {
            check.same("buyer(3, " + what + ")", sale.buyer(3, what), due[what]);
        }
        check.index("buyer -1", () -> sale.buyer(-1, 0));
        check.index("buyer 6", () -> sale.buyer(6, 0));
        check.index("what -1", () -> sale.buyer(0, -1));
        check.index("what 9", () -> sale.buyer(0, 9));
    }

    private static void buyersRefused() {
        WoolSale sale = new WoolSale();
        check.argument("purse -1", () -> sale.addBuyer(-1, 0));
        check.argument("purse 10000001", () -> sale.addBuyer(10000001, 0));
        check.argument("need -1", () -> sale.addBuyer(0, -1));
        check.argument("need 100001", () -> sale.addBuyer(0, 100001));
        check.same("no buyers", sale.count(5), 0);
        check.index("no buyer", () -> sale.buyer(0, 0));
    }

    private static void joining() {
        WoolSale sale = Check.saleOf(1, 10, 20, 30);
        check.same("join", sale.join(0, 2), 1);
        check.same("join", sale.join(2, 2), 2);
        check.same("join again", sale.join(2, 2), 2);
        check.same("ring of buyer 2", sale.buyer(2, 4), 2);
        check.same("members", sale.ring(2, 1), 5);
        check.same("another ring", sale.join(0, 0), 1);
        check.same("members left", sale.ring(2, 1), 4);
        check.same("no ring", sale.join(2, -1), 0);
        check.same("ring of buyer 2", sale.buyer(2, 4), -1);
        check.same("members left", sale.ring(2, 0), 0);
        WoolSale all = Check.saleOf(1, 1, 2, 3, 4, 5, 6);
        for (int b = 0; b < 6; b++) {
            check.same("join of all", all.join(b, 0), b + 1);
        }
        check.same("all six", all.ring(0, 1), 63);
        check.same("none leaves none", sale.join(1, -1), 0);
        check.index("buyer -1", () -> sale.join(-1, 0));
        check.index("buyer 3", () -> sale.join(3, 0));
        check.index("buyer and ring", () -> sale.join(3, 3));
        check.argument("ring -2", () -> sale.join(0, -2));
        check.argument("ring 3", () -> sale.join(0, 3));
        check.same("it stays", sale.buyer(0, 4), 0);
        check.same("nobody left with a grudge", sale.count(9), 0);
    }

    private static void outcome(WoolSale sale, int kind, int reserve, int step, int price, int buyer, int bidders) {
        String call = "kind " + kind + ", reserve " + reserve + ", step " + step + ": ";
        check.same(call + "price", sale.would(0, kind, reserve, step, 0), price);
        check.same(call + "buyer", sale.would(0, kind, reserve, step, 1), buyer);
        check.same(call + "bidders", sale.would(0, kind, reserve, step, 2), bidders);
    }

    private static void rising() {
        WoolSale sale = Check.saleOf(1, 100, 120, 90);
        outcome(sale, 0, 40, 7, 103, 1, 3);
        outcome(sale, 0, 40, 100, 40, 0, 3);
        outcome(sale, 0, 0, 100, 100, 1, 3);
        outcome(sale, 0, 20, 100, 120, 1, 3);
        outcome(sale, 0, 21, 100, 21, 0, 3);
        outcome(sale, 0, 90, 10, 100, 1, 3);
        outcome(sale, 0, 91, 10, 101, 1, 2);
        outcome(sale, 0, 95, 5, 100, 1, 2);
        outcome(sale, 0, 120, 1, 120, 1, 1);
        outcome(sale, 0, 121, 1, -1, -1, 0);
        // 2 holds it at 50 behind 0 and 1, and 0 is the next one round
        outcome(Check.saleOf(1, 50, 50, 50), 0, 30, 10, 50, 2, 3);
        outcome(Check.saleOf(1, 9999, 9999), 0, 0, 1, 9999, 1, 2);
        outcome(Check.saleOf(1, -1, 70, -1, 80), 0, 10, 3, 73, 3, 2);
        outcome(Check.saleOf(1, 70), 0, 10, 3, 10, 0, 1);
        outcome(Check.saleOf(1, -1, -1, -1, -1, -1, 70), 0, 10, 3, 10, 5, 1);
        outcome(Check.saleOf(1, 70, -1, -1, -1, -1, 80), 0, 10, 3, 73, 5, 2);
    }

    private static void falling() {
        WoolSale sale = Check.saleOf(1, 100, 120, 120);
        outcome(sale, 1, 40, 5, 120, 1, 3);
        outcome(sale, 1, 41, 5, 116, 1, 3);
        outcome(sale, 1, 60, 50, 110, 1, 3);
        outcome(sale, 1, 80, 100, 80, 0, 3);
        outcome(sale, 1, 101, 100, 101, 1, 2);
        // it begins at 40 steps above the reserve
        outcome(sale, 1, 10, 1, 50, 0, 3);
        outcome(sale, 1, 60, 1, 100, 0, 3);
        outcome(sale, 1, 61, 1, 101, 1, 3);
        outcome(sale, 1, 121, 1, -1, -1, 0);
    }

    private static void sealed() {
        WoolSale sale = Check.saleOf(1, 100, 120, 120);
        outcome(sale, 2, 0, 1, 120, 1, 3);
        outcome(sale, 2, 120, 100, 120, 1, 2);
        outcome(sale, 2, 121, 1, -1, -1, 0);
        outcome(Check.saleOf(1, 0, -1), 2, 0, 1, 0, 0, 1);
    }

    private static void second() {
        outcome(Check.saleOf(1, 100, 120, 90), 3, 0, 1, 100, 1, 3);
        outcome(Check.saleOf(1, 100, 120, 120), 3, 0, 1, 120, 1, 3);
        outcome(Check.saleOf(1, 100, 120, 90), 3, 101, 1, 101, 1, 1);
        outcome(Check.saleOf(1, 100, 120, 90), 3, 100, 1, 100, 1, 2);
        outcome(Check.saleOf(1, 100), 3, 7, 1, 7, 0, 1);
        outcome(Check.saleOf(1, 100), 3, 101, 1, -1, -1, 0);
    }

    private static void nobodyBids() {
        for (int kind = 0; kind < 4; kind++) {
            outcome(Check.saleOf(1), kind, 0, 1, -1, -1, 0);
            outcome(Check.saleOf(1, -1, -1), kind, 0, 1, -1, -1, 0);
            outcome(Check.saleOf(1, 0), kind, 1, 1, -1, -1, 0);
        }
    }

    private static void ringsBid() {
        WoolSale sale = Check.saleOf(1, 100, 120, 90, 80, 120);
        sale.join(0, 0);
        sale.join(1, 0);
        sale.join(4, 0);
        sale.join(2, 1);
        sale.join(3, 1);
        outcome(sale, 2, 0, 1, 120, 1, 2);
        outcome(sale, 3, 0, 1, 90, 1, 2);
        outcome(sale, 0, 0, 100, 0, 1, 2);
        outcome(sale, 1, 90, 1, 120, 1, 2);
        outcome(sale, 3, 91, 1, 91, 1, 1);
        sale.join(1, -1);
        outcome(sale, 3, 0, 1, 120, 1, 3);
        WoolSale alone = Check.saleOf(1, 100, 120);
        alone.join(0, 0);
        alone.join(1, 1);
        outcome(alone, 3, 0, 1, 100, 1, 2);
        WoolSale silent = Check.saleOf(1, -1, 30, 20);
        silent.join(0, 0);
        silent.join(2, 0);
        outcome(silent, 3, 0, 1, 20, 1, 2);
    }

    private static void paying() {
        WoolSale sale = new WoolSale();
        sale.addGrower();
        sale.addGrower();
        sale.bring(0, 18, 80, 60, 100);
        sale.bring(1, 18, 80, 55, 130);
        sale.bring(0, 18, 80, 40, 53);
        sale.pool(0, 0, 12);
        sale.addBuyer(20000, 100);
        Check.teach(sale, 0, "bid 33;");
        // clean 60, 71 and 21: 152 * 33, and of each 95 of 100
        check.same("sell", sale.sell(0, 2, 0, 1), 33);
        check.same("purse", sale.buyer(0, 0), 20000 - 5016);
        check.same("need", sale.buyer(0, 1), 0);
        check.same("bought", sale.buyer(0, 2), 152);
        check.same("lots", sale.buyer(0, 3), 1);
        check.same("paid", sale.buyer(0, 7), 5016);
        check.same("coins of 0", sale.grower(0, 0), 1881 + 658);
        check.same("coins of 1", sale.grower(1, 0), 2225);
        check.same("paid in all", sale.count(7), 5016);
        check.same("house", sale.count(8), 5016 - 1881 - 658 - 2225);
        check.same("mean", sale.mean(), 33.0);
        WoolSale needy = Check.saleOf(2, 10);
        needy.sell(0, 2, 0, 1);
        check.same("need is left", needy.buyer(0, 1), 99940);
        needy.sell(1, 2, 0, 1);
        check.same("need is left", needy.buyer(0, 1), 99880);
        check.same("lots", needy.buyer(0, 3), 2);
    }

    private static void index() {
        WoolSale sale = Check.saleOf(4, 9000);
        Check.teach(sale, 0, "when turn=0 bid 101;when turn=1 bid 200;when turn=2 bid 0;bid 7;");
        sale.sell(0, 2, 0, 1);
        check.same("the price, as it was 0", sale.index(6), 101);
        sale.sell(1, 2, 0, 1);
        check.same("(303 + 200) / 4", sale.index(6), 125);
        sale.sell(2, 2, 0, 1);
        check.same("375 / 4", sale.index(6), 93);
        sale.sell(3, 2, 8, 1);
        check.same("not sold", sale.index(6), 93);
        sale.sell(3, 2, 7, 1);
        check.same("(279 + 7) / 4", sale.index(6), 71);
        check.same("another class", sale.index(7), 0);
    }

    private static void sharing() {
        WoolSale sale = Check.saleOf(2, 110, 120, 90, 80);
        for (int b = 0; b < 3; b++) {
            sale.join(b, 1);
        }
        // the saving is (110 - 80) * 60 = 1800, of which each gets a third
        check.same("sell", sale.sell(0, 3, 10, 5), 80);
        check.same("got by 0", sale.buyer(0, 6), 600);
        check.same("got by 1", sale.buyer(1, 6), 0);
        check.same("got by 2", sale.buyer(2, 6), 600);
        check.same("got by 3", sale.buyer(3, 6), 0);
        check.same("purse of 0", sale.buyer(0, 0), 10000600);
        check.same("purse of 1", sale.buyer(1, 0), 10000000 - 4800 - 1200);
        check.same("purse of 2", sale.buyer(2, 0), 10000600);
        check.same("paid for lots", sale.buyer(1, 7), 4800);
        check.same("lots of the ring", sale.ring(1, 2), 1);
        check.same("shared", sale.ring(1, 3), 1200);
        check.same("paid in all", sale.count(7), 4800);
        for (int b = 0; b < 4; b++) {
            check.same("grudge of " + b, sale.buyer(b, 5), 0);
        }
        check.same("sell at the limit", sale.sell(1, 2, 10, 5), 120);
        check.same("nothing is saved", sale.ring(1, 3), 1200);
        check.same("lots of the ring", sale.ring(1, 2), 2);
        check.same("members", sale.ring(1, 0), 3);
    }

    private static void sharingBelowThePrice() {
        WoolSale sale = Check.saleOf(3, 100, 60, 80, -1);
        sale.join(0, 0);
        sale.join(1, 0);
        check.same("sell", sale.sell(0, 3, 70, 1), 80);
        check.same("no saving below the price", sale.buyer(1, 6), 0);
        sale.join(1, -1);
        sale.join(3, 0);
        check.same("sell", sale.sell(1, 3, 70, 1), 80);
        check.same("no saving without a limit", sale.buyer(3, 6), 0);
        check.same("lots of the ring", sale.ring(0, 2), 2);
        sale.join(2, 0);
        sale.join(1, 0);
        // the saving is (80 - 10) * 60 = 4200, of which each of 4 gets 1050, also who has no limit
        check.same("sell", sale.sell(2, 0, 10, 1), 10);
        check.same("got by 1", sale.buyer(1, 6), 1050);
        check.same("got by 2", sale.buyer(2, 6), 1050);
        check.same("got by 3", sale.buyer(3, 6), 1050);
        check.same("purse of 0", sale.buyer(0, 0), 10000000 - 4800 - 4800 - 600 - 3150);
        check.same("shared", sale.ring(0, 3), 3150);
    }

    private static void ringsOfOne() {
        WoolSale sale = Check.saleOf(2, 100, 60);
        sale.join(0, 0);
        check.same("sell", sale.sell(0, 3, 10, 1), 60);
        check.same("lots of a ring of one", sale.ring(0, 2), 0);
        sale.join(1, 0);
        check.same("sell", sale.sell(1, 3, 10, 1), 10);
        check.same("lots of a ring of two", sale.ring(0, 2), 1);
        sale.join(1, -1);
        check.same("what was bought stays", sale.ring(0, 2), 1);
        check.same("what was shared stays", sale.ring(0, 3), 1500);
    }

    private static void selling() {
        WoolSale sale = Check.saleOf(2, 100);
        check.index("lot -1", () -> sale.sell(-1, 0, 0, 1));
        check.index("lot 2, and kind wrong", () -> sale.sell(2, 4, 0, 1));
        check.argument("kind -1", () -> sale.sell(0, -1, 0, 1));
        check.argument("kind 4", () -> sale.sell(0, 4, 0, 1));
        check.argument("reserve -1", () -> sale.sell(0, 0, -1, 1));
        check.argument("reserve 5001", () -> sale.sell(0, 0, 5001, 1));
        check.argument("step 0", () -> sale.sell(0, 0, 0, 0));
        check.argument("step 101", () -> sale.sell(0, 0, 0, 101));
        check.same("never offered", sale.lot(0, 9), 0);
        check.same("above all limits", sale.sell(0, 0, 5000, 100), -1);
        check.same("offered", sale.lot(0, 9), 1);
        check.same("sold", sale.sell(0, 0, 100, 1), 100);
        check.state("sold before", () -> sale.sell(0, 0, 100, 1));
        check.argument("sold before, and step wrong", () -> sale.sell(0, 0, 100, 0));
        check.same("offered", sale.lot(0, 9), 2);
        check.same("lots that are sold", sale.count(4), 1);
    }

    private static void sessions() {
        WoolSale sale = Check.saleOf(4, 100, 50);
        Check.teach(sale, 0, "when bought<60 bid 100;pass;");
        check.argument("kind 4", () -> sale.session(4, 0, 1));
        check.argument("kind -1", () -> sale.session(-1, 0, 1));
        check.argument("reserve -1", () -> sale.session(0, -1, 1));
        check.argument("reserve 5001", () -> sale.session(0, 5001, 1));
        check.argument("step 0", () -> sale.session(0, 0, 0));
        check.argument("step 101", () -> sale.session(0, 0, 101));
        sale.sell(2, 2, 40, 1);
        check.same("above all limits", sale.session(2, 200, 1), 0);
        check.same("offered", sale.lot(1, 9), 1);
        check.same("not offered, as it is sold", sale.lot(2, 9), 1);
        check.same("session", sale.session(2, 40, 1), 3);
        check.same("lots", Check.paper(sale), "0: 0 >1@50\n1: 1 >1@50\n2: 2 >0@100\n3: 3 >1@50\n");
        check.same("nothing is left", sale.session(2, 0, 1), 0);
        check.same("sold at 0", Check.saleOf(3, 0).session(2, 0, 1), 3);
        WoolSale other = Check.saleOf(3, 100, 50);
        Check.teach(other, 0, "when bought<60 bid 100;pass;");
        check.same("in ascending order", other.session(2, 60, 1), 1);
        check.same("the first one is sold", other.lot(0, 8), 100);
    }

    private static void would() {
        WoolSale sale = Check.saleOf(2, 100, 50);
        check.index("lot -1", () -> sale.would(-1, 0, 0, 1, 0));
        check.index("lot 2", () -> sale.would(2, 0, 0, 1, 0));
        check.index("what -1", () -> sale.would(0, 0, 0, 1, -1));
        check.index("what 3, and kind wrong", () -> sale.would(0, 4, 0, 1, 3));
        check.argument("kind 4", () -> sale.would(0, 4, 0, 1, 0));
        check.argument("reserve 5001", () -> sale.would(0, 0, 5001, 1, 0));
        check.argument("step 0", () -> sale.would(0, 0, 0, 0, 0));
        sale.sell(0, 0, 0, 1);
        check.state("sold", () -> sale.would(0, 0, 0, 1, 0));
        check.argument("sold, and step wrong", () -> sale.would(0, 0, 0, 101, 0));
        check.index("sold, and what wrong", () -> sale.would(0, 0, 0, 1, 3));
        check.same("the other one", sale.would(1, 2, 0, 1, 0), 100);
    }

    private static void bestReserve() {
        WoolSale sale = Check.saleOf(2, 100, 131);
        check.same("sealed: the least one", sale.bestReserve(0, 2, 1), 0);
        check.same("second", sale.bestReserve(0, 3, 1), 120);
        check.same("rising", sale.bestReserve(0, 0, 5), 120);
        check.same("falling: 91 and 40 steps", sale.bestReserve(0, 1, 1), 100);
        WoolSale rich = Check.saleOf(1, 1019);
        check.same("1000 at most", rich.bestReserve(0, 3, 1), 1000);
        check.same("zero", Check.saleOf(1, 0).bestReserve(0, 3, 1), 0);
        check.same("none", Check.saleOf(1, -1).bestReserve(0, 3, 1), -1);
        check.index("lot -1", () -> sale.bestReserve(-1, 0, 1));
        check.index("lot 2, and kind wrong", () -> sale.bestReserve(2, 4, 1));
        check.argument("kind 4", () -> sale.bestReserve(0, 4, 1));
        check.argument("kind -1", () -> sale.bestReserve(0, -1, 1));
        check.argument("step 0", () -> sale.bestReserve(0, 0, 0));
        check.argument("step 101", () -> sale.bestReserve(0, 0, 101));
        sale.sell(0, 0, 0, 1);
        check.state("sold", () -> sale.bestReserve(0, 0, 1));
        check.argument("sold, and kind wrong", () -> sale.bestReserve(0, 4, 1));
    }

    private static void bestKind() {
        check.same("sealed", Check.saleOf(1, 100, 131).bestKind(0, 1), 2);
        check.same("falling as good as sealed", Check.saleOf(1, 100, 131).bestKind(91, 1), 1);
        check.same("all as good", Check.saleOf(1, 100, 100).bestKind(100, 1), 0);
        WoolSale sale = Check.saleOf(2, 30);
        Check.teach(sale, 0, "when bought=0 bid 30;when index<20 bid 60;pass;");
        // falling and sealed bring 30 for the first lot, and nothing for the second; rising brings 10 and 10
        check.same("the index goes on from lot to lot", sale.bestKind(10, 5), 1);
        check.same("rising brings 16 and 16", sale.bestKind(16, 5), 0);
        check.argument("reserve -1", () -> sale.bestKind(-1, 1));
        check.argument("reserve 5001", () -> sale.bestKind(5001, 1));
        check.argument("step 0", () -> sale.bestKind(0, 0));
        check.argument("step 101", () -> sale.bestKind(0, 101));
    }

    private static void bestKindOfNone() {
        check.same("no lots", Check.saleOf(0, 100).bestKind(0, 1), -1);
        check.same("no limits", Check.saleOf(2, -1).bestKind(0, 1), -1);
        check.same("sold for nothing", Check.saleOf(2, 0).bestKind(0, 1), -1);
        check.same("above all limits", Check.saleOf(2, 50).bestKind(51, 1), -1);
        WoolSale sale = Check.saleOf(2, 50);
        sale.session(0, 20, 1);
        check.same("coins of earlier sales don't count", sale.bestKind(0, 1), -1);
    }

    private static void trialsChangeNothing() {
        WoolSale sale = Check.saleOf(3, 100, 90, 80);
        sale.join(0, 0);
        sale.join(1, 0);
        sale.sell(1, 3, 10, 1);
        sale.list();
        long digest = sale.digest();
        sale.would(0, 3, 10, 1, 0);
        sale.bestReserve(0, 1, 3);
        check.same("bestKind", sale.bestKind(10, 1), 2);
        check.same("digest", sale.digest(), digest);
        check.same("never offered", sale.lot(0, 9), 0);
        check.same("purse", sale.buyer(0, 0), 10000000 - 80 * 60 - 300);
    }
}
