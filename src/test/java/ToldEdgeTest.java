import java.math.BigInteger;

/** Promises 20 to 27 at their edges: what is told of nothing, of all that there can be, and of what is just sold. */
public final class ToldEdgeTest {
    private static final Check check = new Check("ToldEdgeTest");

    public static void main(String[] args) {
        growersWithoutBales();
        allGrowers();
        ringsOfNone();
        ringsThatGrowAndShrink();
        indexes();
        countsOfAll();
        countOfTheTape();
        emptyPaper();
        paperOfLotsWithoutSales();
        digitsOnThePaper();
        fullPaper();
        paperStays();
        means();
        digestOfNothing();
        digestFollowsEachNumber();
        digestWrapsAround();
        check.finish();
    }

    private static void growersWithoutBales() {
        WoolSale sale = new WoolSale();
        for (int g = 0; g < 8; g++) {
            sale.addGrower();
            for (int what = 0; what <= 3; what++) {
                check.same("grower(" + g + ", " + what + ")", sale.grower(g, what), 0);
            }
        }
        check.index("grower 8", () -> sale.grower(8, 0));
    }

    private static void allGrowers() {
        WoolSale sale = new WoolSale();
        for (int g = 0; g < 8; g++) {
            sale.addGrower();
            sale.bring(g, 20, 70, 60, 100);
            sale.bring(g, 25, 70, 40, 50);
        }
        sale.pool(0, 0, 8);
        sale.addBuyer(1000000, 0);
        Check.teach(sale, 0, "bid 100;");
        for (int g = 0; g < 8; g++) {
            check.same("bales, none of them sold", sale.grower(g, 2), 0);
        }
        sale.sell(0, 2, 0, 1);
        for (int g = 0; g < 8; g++) {
            check.same("coins", sale.grower(g, 0), 5700);
            check.same("bales", sale.grower(g, 1), 2);
            check.same("one of them is sold", sale.grower(g, 2), 1);
            check.same("clean weight of all", sale.grower(g, 3), 80);
        }
        sale.sell(1, 2, 0, 1);
        for (int g = 0; g < 8; g++) {
            check.same("coins", sale.grower(g, 0), 7600);
            check.same("both are sold", sale.grower(g, 2), 2);
        }
        WoolSale one = new WoolSale();
        one.addGrower();
        for (int i = 0; i < 48; i++) {
            one.bring(0, 20, 70, 80, 200);
        }
        check.same("48 bales of one", one.grower(0, 1), 48);
        check.same("clean weight of all", one.grower(0, 3), 48 * 160);
    }

    private static void ring(WoolSale sale, int ring, int members, int set, int lots, int shared) {
        int[] due = {members, set, lots, shared};
        for (int what = 0; what <= 3; what++) {
            check.same("ring(" + ring + ", " + what + ")", sale.ring(ring, what), due[what]);
        }
    }

    private static void ringsOfNone() {
        WoolSale sale = Check.saleOf(1, 50, 40);
        sale.session(0, 0, 1);
        for (int r = 0; r <= 2; r++) {
            ring(sale, r, 0, 0, 0, 0);
        }
    }

    private static void ringsThatGrowAndShrink() {
        WoolSale sale = Check.saleOf(6, 50, 40, 30);
        sale.join(0, 2);
        sale.sell(0, 3, 0, 1);
        ring(sale, 2, 1, 1, 0, 0);
        sale.join(2, 2);
        sale.sell(1, 3, 0, 1);
        // sold at 40, which is more than 30: nothing is saved
        ring(sale, 2, 2, 5, 1, 0);
        sale.join(1, 2);
        sale.sell(2, 3, 0, 1);
        // sold at 0: 40 * 60 is saved, of which two get a third each
        ring(sale, 2, 3, 7, 2, 1600);
        sale.join(0, -1);
        sale.sell(3, 3, 0, 1);
        // bought by one who is in no ring any longer
        ring(sale, 2, 2, 6, 2, 1600);
        sale.join(2, 0);
        ring(sale, 2, 1, 2, 2, 1600);
        ring(sale, 0, 1, 4, 0, 0);
        sale.sell(4, 2, 51, 1);
        sale.join(0, 2);
        sale.sell(4, 2, 51, 1);
        // what is not sold counts nothing
        ring(sale, 2, 2, 3, 2, 1600);
        ring(sale, 1, 0, 0, 0, 0);
    }

    private static void indexes() {
        WoolSale sale = new WoolSale();
        sale.addGrower();
        for (int microns = 14; microns <= 40; microns += 2) {
            sale.bring(0, microns, 70, 60, 100);
        }
        sale.pool(0, 0, 1);
        sale.addBuyer(10000000, 0);
        Check.teach(sale, 0, "bid class*100;");
        // twice for the classes with two of these microns, with the same price
        check.same("sold", sale.session(2, 1, 1), 14);
        for (int micronClass = 4; micronClass <= 13; micronClass++) {
            check.same("index " + micronClass, sale.index(micronClass), 100 * micronClass);
        }
    }

    private static void counted(WoolSale sale, int... due) {
        for (int what = 0; what <= 10; what++) {
            check.same("count(" + what + ")", sale.count(what), due[what]);
        }
    }

    private static void countsOfAll() {
        WoolSale sale = new WoolSale();
        for (int g = 0; g < 8; g++) {
            sale.addGrower();
        }
        for (int b = 0; b < 29; b++) {
            sale.bring(b % 8, 20, 70, 60, 100);
        }
        counted(sale, 8, 29, 29, 0, 0, 0, 0, 0, 0, 0, 0);
        sale.pool(0, 0, 1);
        for (int b = 29; b < 48; b++) {
            sale.bring(b % 8, 20, 70, 60, 100);
        }
        counted(sale, 8, 48, 19, 29, 0, 0, 0, 0, 0, 0, 0);
        for (int b = 0; b < 6; b++) {
            sale.addBuyer(10000000, 100000);
            Check.teach(sale, b, "bid 9999;");
        }
        sale.bestKind(5000, 100);
        counted(sale, 8, 48, 19, 29, 0, 6, 0, 0, 0, 0, 0);
        sale.session(2, 5000, 1);
        sale.list();
        int paid = 29 * 60 * 9999;
        int paper = 10 * 13 + 19 * 15;
        counted(sale, 8, 48, 19, 29, 29, 6, 0, paid, paid - 29 * 569943, 0, paper);
    }

    private static void countOfTheTape() {
        WoolSale sale = new WoolSale();
        check.same("empty", sale.count(6), 0);
        for (int i = 1; i <= 50; i++) {
            sale.feed(0, 0, 0, 0, 0);
            check.same("fed", sale.count(6), 20 * i);
        }
        check.state("full", () -> sale.feed(0, 0, 0, 0, 0));
        check.same("full", sale.count(6), 1000);
        sale.trim(1);
        check.same("trimmed", sale.count(6), 1);
        sale.addBuyer(0, 0);
        check.same("an error", sale.teach(0), 1);
        check.same("empty behind teach", sale.count(6), 0);
    }

    private static void emptyPaper() {
        WoolSale sale = new WoolSale();
        check.same("list of nothing", sale.list(), 0);
        check.same("bytes", sale.count(10), 0);
        check.index("byte 0", () -> sale.byteAt(0));
        sale.addGrower();
        sale.bring(0, 20, 70, 60, 100);
        check.same("list of a bale in the store", sale.list(), 0);
        check.index("byte 0", () -> sale.byteAt(0));
        sale.pool(0, 0, 1);
        check.index("byte 0, as nothing is written yet", () -> sale.byteAt(0));
        check.same("list of a lot", sale.list(), 5);
        check.same("the last byte", sale.byteAt(4), 10);
        check.index("byte 5", () -> sale.byteAt(5));
    }

    private static void paperOfLotsWithoutSales() {
        WoolSale sale = Check.saleOf(2, 50);
        sale.sell(0, 2, 51, 1);
        check.same("offered, not sold", Check.paper(sale), "0: 0\n1: 1\n");
        sale.sell(1, 2, 50, 1);
        check.same("the last one is sold", Check.paper(sale), "0: 0\n1: 1 >0@50\n");
        sale.sell(0, 2, 50, 1);
        check.same("both are sold", Check.paper(sale), "0: 0 >0@50\n1: 1 >0@50\n");
    }

    private static void digitsOnThePaper() {
        int[] prices = {0, 9, 10, 99, 100, 999, 1000, 1001, 1010, 9999};
        WoolSale sale = Check.saleOf(10, -1, -1, -1, -1, -1, 0);
        StringBuilder due = new StringBuilder();
        for (int lot = 0; lot < 10; lot++) {
            Check.teach(sale, 5, "bid " + prices[lot] + ";");
            sale.sell(lot, 2, 0, 1);
            due.append(lot).append(": ").append(lot).append(" >5@").append(prices[lot]).append('\n');
        }
        check.same("prices", Check.paper(sale), due.toString());
    }

    private static void fullPaper() {
        WoolSale sale = new WoolSale();
        sale.addGrower();
        for (int b = 0; b < 48; b++) {
            sale.bring(0, 20, 70, 40, 50);
        }
        // 16 lots of three bales, and no more bales for others
        sale.pool(0, 0, 3);
        sale.addBuyer(10000000, 0);
        Check.teach(sale, 0, "bid 9999;");
        sale.session(2, 0, 1);
        // numbers of lots, blanks and numbers of bales, colons, sales, line ends
        int due = 10 + 6 * 2 + 10 * 2 + 38 * 3 + 16 + 16 * 8 + 16;
        check.same("48 bales", sale.list(), due);
        check.same("the last byte", sale.byteAt(due - 1), 10);
        check.index("no byte behind it", () -> sale.byteAt(due));
        check.same("the last line", Check.paper(sale).endsWith("\n15: 45 46 47 >0@9999\n") ? 1 : 0, 1);
    }

    private static void paperStays() {
        WoolSale sale = Check.saleOf(1, 50);
        sale.list();
        sale.sell(0, 2, 0, 1);
        sale.bring(0, 20, 70, 60, 100);
        sale.pool(0, 0, 1);
        check.same("bytes", sale.count(10), 5);
        check.index("byte 5", () -> sale.byteAt(5));
        check.same("the last byte", sale.byteAt(4), 10);
        check.same("in the place of what was there", sale.list(), 16);
        check.same("again", sale.list(), 16);
        check.same("paper", Check.paper(sale), "0: 0 >0@50\n1: 1\n");
    }

    private static void means() {
        check.same("nothing there", new WoolSale().mean(), 0.0);
        WoolSale sale = Check.saleOf(3, 50);
        check.same("nothing sold", sale.mean(), 0.0);
        sale.sell(0, 2, 51, 1);
        check.same("nothing sold yet", sale.mean(), 0.0);
        Check.teach(sale, 0, "when turn=0 bid 0;when turn=1 bid 1;bid 9999;");
        sale.sell(0, 2, 0, 1);
        check.same("sold for nothing", sale.mean(), 0.0);
        sale.sell(1, 2, 0, 1);
        check.same("1 for half of it", sale.mean(), 0.5);
        sale.sell(2, 2, 0, 1);
        check.same("a third of 10000", sale.mean(), 10000.0 / 3.0);
    }

    private static void digestOfNothing() {
        long due = 569;
        for (int i = 0; i < 11 + 12 + 10; i++) {
            due *= 31;
        }
        check.same("33 numbers, all 0", new WoolSale().digest(), due);
        WoolSale sale = new WoolSale();
        sale.addGrower();
        due = 569 * 31 + 1;
        for (int i = 0; i < 10 + 4 + 12 + 10; i++) {
            due *= 31;
        }
        check.same("a grower, with four numbers", sale.digest(), due);
    }

    /** Each call that changes something changes what the numbers are. */
    private static void digestFollowsEachNumber() {
        WoolSale sale = Check.saleOf(2, 50);
        sale.addBuyer(70, 80);
        check.same("digest", sale.digest(), byHand(sale));
        sale.join(1, 1);
        check.same("digest behind join", sale.digest(), byHand(sale));
        sale.sell(0, 2, 51, 1);
        check.same("digest behind an offer", sale.digest(), byHand(sale));
        sale.sell(0, 2, 0, 1);
        check.same("digest behind a sale", sale.digest(), byHand(sale));
        sale.list();
        check.same("digest behind list", sale.digest(), byHand(sale));
        sale.bring(0, 40, 70, 60, 100);
        sale.feed(1, 2, 3, 4, 5);
        check.same("digest behind bring and feed", sale.digest(), byHand(sale));
    }

    private static long byHand(WoolSale sale) {
        long d = 569;
        for (int what = 0; what <= 10; what++) {
            d = d * 31 + sale.count(what);
        }
        for (int g = 0; g < sale.count(0); g++) {
            for (int what = 0; what <= 3; what++) {
                d = d * 31 + sale.grower(g, what);
            }
        }
        for (int b = 0; b < sale.count(1); b++) {
            d = d * 31 + sale.bale(b, 6);
        }
        for (int l = 0; l < sale.count(3); l++) {
            for (int what = 0; what <= 9; what++) {
                d = d * 31 + sale.lot(l, what);
            }
        }
        for (int b = 0; b < sale.count(5); b++) {
            for (int what = 0; what <= 8; what++) {
                d = d * 31 + sale.buyer(b, what);
            }
        }
        for (int r = 0; r <= 2; r++) {
            for (int what = 0; what <= 3; what++) {
                d = d * 31 + sale.ring(r, what);
            }
        }
        for (int micronClass = 4; micronClass <= 13; micronClass++) {
            d = d * 31 + sale.index(micronClass);
        }
        for (int i = 0; i < sale.count(10); i++) {
            d = d * 31 + sale.byteAt(i);
        }
        return d;
    }

    private static void digestWrapsAround() {
        BigInteger far = BigInteger.valueOf(31).pow(33).multiply(BigInteger.valueOf(569));
        check.same("beyond 64 bits", new WoolSale().digest(), far.longValue());
        WoolSale sale = Check.saleOf(30, 9999, 9998, 9997, 9996, 9995, 9994);
        sale.session(0, 0, 1);
        sale.list();
        check.same("of thirty lots and six buyers", sale.digest(), byHand(sale));
    }
}
