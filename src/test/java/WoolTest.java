/** Promises 1 to 6: a new object, growers, bales and lots. */
public final class WoolTest {
    private static final Check check = new Check("WoolTest");

    public static void main(String[] args) {
        newObject();
        growers();
        bales();
        balesRefused();
        fullStore();
        pooling();
        poolingAgain();
        poolingRefused();
        tooManyLots();
        factsOfBales();
        factsOfLots();
        check.finish();
    }

    private static void newObject() {
        WoolSale sale = new WoolSale();
        for (int what = 0; what <= 10; what++) {
            check.same("new: count(" + what + ")", sale.count(what), 0);
        }
        for (int micronClass = 4; micronClass <= 13; micronClass++) {
            check.same("new: index", sale.index(micronClass), 0);
        }
        for (int what = 0; what <= 3; what++) {
            int told = what;
            check.same("new: ring", sale.ring(2, what), 0);
            check.index("new: grower", () -> sale.grower(0, told));
        }
        check.same("new: errorAt", sale.errorAt(), -1);
        check.same("new: mean", sale.mean(), 0.0);
        check.index("new: bale", () -> sale.bale(0, 0));
        check.index("new: lot", () -> sale.lot(0, 0));
        check.index("new: buyer", () -> sale.buyer(0, 0));
        check.index("new: byteAt", () -> sale.byteAt(0));
        check.argument("new: trim", () -> sale.trim(1));
        check.same("new: pool", sale.pool(0, 0, 1), 0);
        check.same("new: session", sale.session(0, 0, 1), 0);
        check.same("new: bestKind", sale.bestKind(0, 1), -1);
        check.same("new: list", sale.list(), 0);
    }

    private static void growers() {
        WoolSale sale = new WoolSale();
        for (int i = 0; i < 8; i++) {
            check.same("addGrower", sale.addGrower(), i);
            check.same("coins at first", sale.grower(i, 0), 0);
        }
        check.state("the 9th grower", sale::addGrower);
        check.same("growers", sale.count(0), 8);
    }

    private static void bales() {
        WoolSale sale = new WoolSale();
        sale.addGrower();
        sale.addGrower();
        check.same("smallest bale", sale.bring(0, 14, 30, 40, 50), 0);
        check.same("greatest bale", sale.bring(1, 40, 120, 80, 200), 1);
        check.same("bales", sale.count(1), 2);
        check.same("bales in the store", sale.count(2), 2);
    }

    private static void balesRefused() {
        WoolSale sale = new WoolSale();
        check.index("bring without growers", () -> sale.bring(0, 20, 70, 60, 100));
        sale.addGrower();
        check.index("grower -1", () -> sale.bring(-1, 20, 70, 60, 100));
        check.index("no such grower, and micron wrong", () -> sale.bring(1, 13, 70, 60, 100));
        check.argument("micron 13", () -> sale.bring(0, 13, 70, 60, 100));
        check.argument("micron 41", () -> sale.bring(0, 41, 70, 60, 100));
        check.argument("length 29", () -> sale.bring(0, 20, 29, 60, 100));
        check.argument("length 121", () -> sale.bring(0, 20, 121, 60, 100));
        check.argument("yield 39", () -> sale.bring(0, 20, 70, 39, 100));
        check.argument("yield 81", () -> sale.bring(0, 20, 70, 81, 100));
        check.argument("weight 49", () -> sale.bring(0, 20, 70, 60, 49));
        check.argument("weight 201", () -> sale.bring(0, 20, 70, 60, 201));
        check.argument("weight far off", () -> sale.bring(0, 20, 70, 60, Integer.MIN_VALUE));
        check.same("nothing was brought", sale.count(1), 0);
    }

    private static void fullStore() {
        WoolSale sale = new WoolSale();
        sale.addGrower();
        for (int i = 0; i < 48; i++) {
            check.same("bring", sale.bring(0, 20, 70, 60, 100), i);
        }
        check.state("the 49th bale", () -> sale.bring(0, 20, 70, 60, 100));
        check.argument("the 49th bale, and micron wrong", () -> sale.bring(0, 13, 70, 60, 100));
        check.index("the 49th bale, and no such grower", () -> sale.bring(1, 13, 70, 60, 100));
        check.same("bales", sale.count(1), 48);
        check.same("pool all", sale.pool(0, 0, 12), 4);
        check.state("the 49th bale, with an empty store", () -> sale.bring(0, 20, 70, 60, 100));
    }

    private static WoolSale sixBales() {
        WoolSale sale = new WoolSale();
        sale.addGrower();
        sale.bring(0, 20, 60, 60, 100);
        sale.bring(0, 18, 90, 60, 100);
        sale.bring(0, 18, 80, 60, 100);
        sale.bring(0, 19, 95, 60, 100);
        sale.bring(0, 20, 80, 60, 100);
        sale.bring(0, 18, 80, 60, 100);
        return sale;
    }

    private static void pooling() {
        // in order: 2 and 5 (18, 80), 1 (18, 90), 3 (19, 95), 0 (20, 60), 4 (20, 80)
        WoolSale sale = sixBales();
        check.same("pool(2, 10, 3)", sale.pool(2, 10, 3), 4);
        check.same("lots of (2, 10, 3)", Check.paper(sale), "0: 2 5 1\n1: 3\n2: 0\n3: 4\n");
        sale = sixBales();
        check.same("pool(2, 20, 12)", sale.pool(2, 20, 12), 1);
        check.same("lots of (2, 20, 12)", Check.paper(sale), "0: 2 5 1 3 0 4\n");
        sale = sixBales();
        check.same("pool(1, 20, 12)", sale.pool(1, 20, 12), 2);
        check.same("lots of (1, 20, 12)", Check.paper(sale), "0: 2 5 1 3\n1: 0 4\n");
        sale = sixBales();
        check.same("pool(10, 9, 12)", sale.pool(10, 9, 12), 3);
        check.same("lots of (10, 9, 12)", Check.paper(sale), "0: 2 5 4\n1: 1 3\n2: 0\n");
        sale = sixBales();
        check.same("pool(10, 60, 1)", sale.pool(10, 60, 1), 6);
        check.same("lots of (10, 60, 1)", Check.paper(sale), "0: 2\n1: 5\n2: 1\n3: 3\n4: 0\n5: 4\n");
        sale = sixBales();
        check.same("pool(0, 0, 2)", sale.pool(0, 0, 2), 5);
        check.same("lots of (0, 0, 2)", Check.paper(sale), "0: 2 5\n1: 1\n2: 3\n3: 0\n4: 4\n");
        check.same("store", sale.count(2), 0);
        poolingOfTaken();
    }

    private static void poolingOfTaken() {
        WoolSale sale = new WoolSale();
        sale.addGrower();
        sale.bring(0, 18, 80, 60, 100);
        sale.bring(0, 18, 95, 60, 100);
        sale.bring(0, 19, 88, 60, 100);
        check.same("the last one would fit both", sale.pool(1, 10, 12), 2);
        check.same("it joins the first one", Check.paper(sale), "0: 0 2\n1: 1\n");
    }

    private static void poolingAgain() {
        WoolSale sale = sixBales();
        sale.pool(2, 20, 12);
        check.same("an empty store", sale.pool(2, 20, 12), 0);
        sale.bring(0, 18, 80, 60, 100);
        sale.bring(0, 17, 80, 60, 100);
        check.same("store", sale.count(2), 2);
        check.same("pool again", sale.pool(1, 0, 12), 1);
        check.same("lots", Check.paper(sale), "0: 2 5 1 3 0 4\n1: 7 6\n");
        check.same("bale of the second lot", sale.bale(6, 6), 1);
        check.same("bale of the first lot", sale.bale(3, 6), 0);
    }

    private static void poolingRefused() {
        WoolSale sale = sixBales();
        check.argument("microns -1", () -> sale.pool(-1, 0, 1));
        check.argument("microns 11", () -> sale.pool(11, 0, 1));
        check.argument("lengths -1", () -> sale.pool(0, -1, 1));
        check.argument("lengths 61", () -> sale.pool(0, 61, 1));
        check.argument("most 0", () -> sale.pool(0, 0, 0));
        check.argument("most 13", () -> sale.pool(0, 0, 13));
        check.same("no lots", sale.count(3), 0);
        check.same("all in the store", sale.count(2), 6);
        check.same("pool", sale.pool(10, 60, 12), 1);
    }

    private static void tooManyLots() {
        WoolSale sale = new WoolSale();
        sale.addGrower();
        for (int i = 0; i < 31; i++) {
            sale.bring(0, 20, 70, 60, 100);
        }
        check.state("31 lots", () -> sale.pool(0, 0, 1));
        check.argument("31 lots, and most wrong", () -> sale.pool(0, 0, 13));
        check.same("no lots", sale.count(3), 0);
        check.same("all in the store", sale.count(2), 31);
        check.same("no lot", sale.bale(30, 6), -1);
        check.same("16 lots", sale.pool(0, 0, 2), 16);
        for (int i = 0; i < 15; i++) {
            sale.bring(0, 20, 70, 60, 100);
        }
        check.state("16 and 15 lots", () -> sale.pool(0, 0, 1));
        check.same("16 lots still", sale.count(3), 16);
        check.same("16 and 8 lots", sale.pool(0, 0, 2), 8);
        check.same("the last one", sale.lot(23, 0), 1);
        WoolSale full = Check.saleOf(30);
        check.same("30 lots", full.count(3), 30);
        check.same("none more, as the store is empty", full.pool(0, 0, 1), 0);
        full.bring(0, 20, 70, 60, 100);
        check.state("the 31st lot", () -> full.pool(0, 0, 1));
    }

    private static void factsOfBales() {
        WoolSale sale = new WoolSale();
        sale.addGrower();
        sale.addGrower();
        sale.bring(0, 18, 80, 60, 100);
        sale.bring(1, 19, 90, 55, 130);
        int[] due = {1, 19, 90, 55, 130, 71, -1};
        for (int what = 0; what < 7; what++) {
            check.same("bale(1, " + what + ")", sale.bale(1, what), due[what]);
        }
        sale.pool(0, 0, 1);
        check.same("lot of bale 1", sale.bale(1, 6), 1);
        check.index("bale -1", () -> sale.bale(-1, 0));
        check.index("bale 2", () -> sale.bale(2, 0));
        check.index("what -1", () -> sale.bale(0, -1));
        check.index("what 7", () -> sale.bale(0, 7));
    }

    private static void factsOfLots() {
        WoolSale sale = new WoolSale();
        sale.addGrower();
        sale.bring(0, 18, 80, 60, 100);
        sale.bring(0, 19, 90, 55, 130);
        sale.bring(0, 40, 30, 40, 50);
        sale.pool(1, 10, 2);
        // clean 60 and 71: (18 * 60 + 19 * 71) / 131, (80 * 60 + 90 * 71) / 131, 13100 / 230
        int[] due = {2, 230, 131, 18, 85, 56, 6, -1, -1, 0};
        for (int what = 0; what < 10; what++) {
            check.same("lot(0, " + what + ")", sale.lot(0, what), due[what]);
        }
        check.same("greatest class", sale.lot(1, 6), 13);
        check.same("smallest yield", sale.lot(1, 5), 40);
        check.index("lot -1", () -> sale.lot(-1, 0));
        check.index("lot 2", () -> sale.lot(2, 0));
        check.index("what -1", () -> sale.lot(0, -1));
        check.index("what 10", () -> sale.lot(0, 10));
        sale.addBuyer(10000, 200);
        Check.teach(sale, 0, "bid 50;");
        sale.sell(0, 2, 51, 1);
        check.same("buyer of what is not sold", sale.lot(0, 7), -1);
        check.same("offered once", sale.lot(0, 9), 1);
        sale.sell(0, 2, 50, 1);
        check.same("buyer", sale.lot(0, 7), 0);
        check.same("price", sale.lot(0, 8), 50);
        check.same("offered twice", sale.lot(0, 9), 2);
        check.same("bale of a lot that is sold", sale.bale(1, 6), 0);
    }
}
