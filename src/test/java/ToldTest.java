/** Promises 20 to 27: what is told of growers, rings, classes and all, the paper, the mean and the digest. */
public final class ToldTest {
    private static final Check check = new Check("ToldTest");

    public static void main(String[] args) {
        growers();
        rings();
        classes();
        counts();
        lists();
        longLists();
        mean();
        digestOfNothing();
        digestOfAll();
        check.finish();
    }

    /** Two growers; the lots are 0 of the bales 1 and 2, and 1 of the bale 0. */
    private static WoolSale twoLots() {
        WoolSale sale = new WoolSale();
        sale.addGrower();
        sale.addGrower();
        sale.bring(0, 40, 70, 60, 100);
        sale.bring(1, 20, 70, 60, 100);
        sale.bring(0, 20, 70, 50, 100);
        sale.pool(0, 0, 2);
        sale.addBuyer(100000, 500);
        sale.addBuyer(100000, 500);
        Check.teach(sale, 0, "bid 100;");
        Check.teach(sale, 1, "bid 90;");
        return sale;
    }

    private static void tell(String call, int[] got, int[] due) {
        for (int i = 0; i < due.length; i++) {
            check.same(call + ", " + i, got[i], due[i]);
        }
    }

    private static int[] grower(WoolSale sale, int grower) {
        return new int[] {sale.grower(grower, 0), sale.grower(grower, 1), sale.grower(grower, 2),
            sale.grower(grower, 3)};
    }

    private static void growers() {
        WoolSale sale = twoLots();
        tell("grower 0", grower(sale, 0), new int[] {0, 2, 0, 110});
        sale.sell(0, 2, 0, 1);
        tell("grower 0", grower(sale, 0), new int[] {4750, 2, 1, 110});
        tell("grower 1", grower(sale, 1), new int[] {5700, 1, 1, 60});
        sale.sell(1, 3, 0, 1);
        tell("grower 0", grower(sale, 0), new int[] {4750 + 5130, 2, 2, 110});
        sale.bring(1, 20, 70, 80, 200);
        tell("grower 1", grower(sale, 1), new int[] {5700, 2, 1, 220});
        check.index("grower -1", () -> sale.grower(-1, 0));
        check.index("grower 2", () -> sale.grower(2, 0));
        check.index("what -1", () -> sale.grower(0, -1));
        check.index("what 4", () -> sale.grower(0, 4));
    }

    private static void rings() {
        WoolSale sale = twoLots();
        sale.addBuyer(0, 0);
        sale.join(0, 2);
        sale.join(2, 2);
        sale.join(1, 0);
        int[] ring = {sale.ring(2, 0), sale.ring(2, 1), sale.ring(2, 2), sale.ring(2, 3)};
        tell("ring 2", ring, new int[] {2, 5, 0, 0});
        check.same("ring 0", sale.ring(0, 1), 2);
        check.same("ring 1", sale.ring(1, 1), 0);
        sale.sell(0, 2, 0, 1);
        check.same("bought in ring 2", sale.ring(2, 2), 1);
        check.same("bought in ring 0", sale.ring(0, 2), 0);
        check.index("ring -1", () -> sale.ring(-1, 0));
        check.index("ring 3", () -> sale.ring(3, 0));
        check.index("what -1", () -> sale.ring(0, -1));
        check.index("what 4", () -> sale.ring(0, 4));
    }

    private static void classes() {
        WoolSale sale = twoLots();
        sale.session(2, 0, 1);
        check.same("class 6", sale.index(6), 100);
        check.same("class 13", sale.index(13), 100);
        check.same("class 4", sale.index(4), 0);
        check.index("class 3", () -> sale.index(3));
        check.index("class 14", () -> sale.index(14));
        check.index("class -2147483648", () -> sale.index(Integer.MIN_VALUE));
    }

    private static int[] counts(WoolSale sale) {
        int[] told = new int[11];
        for (int what = 0; what < 11; what++) {
            told[what] = sale.count(what);
        }
        return told;
    }

    private static void counts() {
        WoolSale sale = twoLots();
        sale.bring(0, 20, 70, 60, 100);
        sale.feed(0, 0, 0, 0, 0);
        tell("count", counts(sale), new int[] {2, 4, 1, 2, 0, 2, 20, 0, 0, 0, 0});
        sale.sell(0, 2, 0, 1);
        sale.list();
        tell("count", counts(sale), new int[] {2, 4, 1, 2, 1, 2, 20, 11000, 550, 0, 19});
        sale.sell(1, 3, 0, 1);
        tell("count", counts(sale), new int[] {2, 4, 1, 2, 2, 2, 20, 16400, 820, 0, 19});
        check.index("count(-1)", () -> sale.count(-1));
        check.index("count(11)", () -> sale.count(11));
    }

    private static void lists() {
        WoolSale sale = twoLots();
        check.index("no paper", () -> sale.byteAt(0));
        check.same("list", sale.list(), 12);
        check.same("paper", Check.paper(sale), "0: 1 2\n1: 0\n");
        sale.sell(1, 3, 0, 1);
        check.same("the paper stays", sale.count(10), 12);
        check.same("first byte", sale.byteAt(0), '0');
        check.same("line end", sale.byteAt(6), 10);
        check.index("byte 12", () -> sale.byteAt(12));
        check.index("byte -1", () -> sale.byteAt(-1));
        check.same("paper", Check.paper(sale), "0: 1 2\n1: 0 >0@90\n");
        check.index("byte 18", () -> sale.byteAt(18));
        check.same("last byte", sale.byteAt(17), 10);
    }

    private static void longLists() {
        WoolSale sale = Check.saleOf(30, 9999, 0);
        check.same("list", sale.list(), 10 * 5 + 20 * 7);
        sale.sell(10, 2, 0, 1);
        check.same("list", sale.list(), 10 * 5 + 20 * 7 + 8);
        check.same("bale 10", sale.byteAt(10 * 5 + 4), '1');
        check.same("bale 10", sale.byteAt(10 * 5 + 5), '0');
        check.same("the price", sale.byteAt(10 * 5 + 10), '9');
        Check.teach(sale, 0, "bid 100;");
        sale.sell(0, 2, 0, 1);
        Check.teach(sale, 0, "bid 0;");
        sale.sell(1, 2, 0, 1);
        Check.teach(sale, 0, "bid 1000;");
        sale.sell(29, 2, 0, 1);
        check.same("price 1000", Check.paper(sale).endsWith("\n29: 29 >0@1000\n") ? 1 : 0, 1);
        check.same("prices 100 and 0", Check.paper(sale).substring(0, 21), "0: 0 >0@100\n1: 1 >0@0");
    }

    private static void mean() {
        WoolSale sale = twoLots();
        check.same("nothing is sold", sale.mean(), 0.0);
        sale.sell(0, 2, 0, 1);
        check.same("100", sale.mean(), 100.0);
        sale.sell(1, 3, 0, 1);
        check.same("16400 / 170", sale.mean(), 16400.0 / 170.0);
        WoolSale free = Check.saleOf(1, 0);
        free.sell(0, 2, 0, 1);
        check.same("sold for nothing", free.mean(), 0.0);
    }

    private static long follow(long d, int... numbers) {
        long next = d;
        for (int x : numbers) {
            next = next * 31 + x;
        }
        return next;
    }

    private static void digestOfNothing() {
        // 11 counts, 3 rings with 4 numbers each, and 10 classes, all of them 0
        check.same("digest", new WoolSale().digest(), follow(569, new int[11 + 12 + 10]));
    }

    private static void digestOfAll() {
        WoolSale sale = twoLots();
        sale.join(0, 1);
        sale.join(1, 1);
        sale.sell(0, 3, 10, 1);
        sale.bring(1, 30, 70, 60, 100);
        sale.list();
        sale.feed(1, 2, 3, 4, 5);
        // sold at 10 for 110 * 10; the saving is 80 * 110, of which the other one gets half
        long due = follow(569, 2, 4, 1, 2, 1, 2, 20, 1100, 55, 0, 18);
        due = follow(due, 475, 2, 1, 110, 570, 2, 1, 120);
        due = follow(due, 1, 0, 0, -1);
        due = follow(due, 2, 200, 110, 20, 70, 55, 6, 0, 10, 1);
        due = follow(due, 1, 100, 60, 40, 70, 60, 13, -1, -1, 0);
        due = follow(due, 100000 - 1100 - 4400, 390, 110, 1, 1, 0, 0, 1100, 1);
        due = follow(due, 104400, 500, 0, 0, 1, 0, 4400, 0, 1);
        due = follow(due, 0, 0, 0, 0, 2, 3, 1, 4400, 0, 0, 0, 0);
        due = follow(due, 0, 0, 10, 0, 0, 0, 0, 0, 0, 0);
        for (char sign : "0: 1 2 >0@10\n1: 0\n".toCharArray()) {
            due = follow(due, sign);
        }
        check.same("digest", sale.digest(), due);
    }
}
