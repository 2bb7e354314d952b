/** Promises 1 to 6 and chapter 1 of the terms at their edges: what is just allowed, and what is told there. */
public final class WoolEdgeTest {
    private static final Check check = new Check("WoolEdgeTest");

    public static void main(String[] args) {
        nothingAtAll();
        nothingInTheStore();
        numbersOfGrowers();
        endsOfBales();
        cleanWeightIsCut();
        fullOfBales();
        endsOfPooling();
        micronsOfALot();
        lengthsOfALot();
        balesOfALot();
        theFirstOneCounts();
        orderOfBales();
        lotsAreNumberedOn();
        thirtyLots();
        meansAreCut();
        smallestAndGreatestLot();
        classes();
        whatIsNotSold();
        check.finish();
    }

    private static WoolSale ofGrower() {
        WoolSale sale = new WoolSale();
        sale.addGrower();
        return sale;
    }

    /** Bales as pairs of microns and length; each has the clean weight 60. */
    private static WoolSale ofBales(int... pairs) {
        WoolSale sale = ofGrower();
        for (int i = 0; i + 1 < pairs.length; i += 2) {
            sale.bring(0, pairs[i], pairs[i + 1], 60, 100);
        }
        return sale;
    }

    private static void pooled(WoolSale sale, int microns, int lengths, int most, String due) {
        String call = "pool(" + microns + ", " + lengths + ", " + most + ")";
        int ahead = sale.count(3);
        int made = sale.pool(microns, lengths, most);
        check.same(call + " and lots", sale.count(3), ahead + made);
        check.same(call, Check.paper(sale), due);
    }

    private static void nothingAtAll() {
        WoolSale sale = new WoolSale();
        for (int what = 0; what <= 10; what++) {
            check.same("nothing: count(" + what + ")", sale.count(what), 0);
        }
        for (int ring = 0; ring <= 2; ring++) {
            for (int what = 0; what <= 3; what++) {
                check.same("nothing: ring(" + ring + ", " + what + ")", sale.ring(ring, what), 0);
            }
        }
        for (int micronClass = 4; micronClass <= 13; micronClass++) {
            check.same("nothing: index(" + micronClass + ")", sale.index(micronClass), 0);
        }
        check.same("nothing: trim(0)", sale.trim(0), 0);
        check.same("nothing: errorAt()", sale.errorAt(), -1);
        check.same("nothing: pool", sale.pool(10, 60, 12), 0);
        check.same("nothing: session", sale.session(3, 5000, 100), 0);
        check.same("nothing: bestKind", sale.bestKind(5000, 100), -1);
        check.same("nothing: list", sale.list(), 0);
        check.same("nothing: mean", sale.mean(), 0.0);
        check.same("nothing: count(3)", sale.count(3), 0);
    }

    private static void nothingInTheStore() {
        WoolSale sale = ofGrower();
        check.same("a grower without bales", sale.pool(0, 0, 1), 0);
        for (int what = 0; what <= 3; what++) {
            check.same("of a grower without bales", sale.grower(0, what), 0);
        }
        sale.bring(0, 20, 70, 60, 100);
        check.same("one bale", sale.pool(0, 0, 1), 1);
        check.same("all are in lots", sale.pool(0, 0, 1), 0);
        check.same("store", sale.count(2), 0);
        check.same("lots", sale.count(3), 1);
    }

    private static void numbersOfGrowers() {
        WoolSale sale = new WoolSale();
        for (int i = 0; i < 8; i++) {
            check.same("addGrower", sale.addGrower(), i);
            check.same("growers", sale.count(0), i + 1);
        }
        check.same("a bale of the last one", sale.bring(7, 20, 70, 60, 100), 0);
        check.same("its grower", sale.bale(0, 0), 7);
        check.same("bales of the last one", sale.grower(7, 1), 1);
        check.same("bales of the one ahead", sale.grower(6, 1), 0);
    }

    private static void endsOfBales() {
        int[][] ends = {
            {14, 70, 60, 100}, {40, 70, 60, 100}, {20, 30, 60, 100}, {20, 120, 60, 100},
            {20, 70, 40, 100}, {20, 70, 80, 100}, {20, 70, 60, 50}, {20, 70, 60, 200}};
        WoolSale sale = ofGrower();
        for (int b = 0; b < ends.length; b++) {
            check.same("bring", sale.bring(0, ends[b][0], ends[b][1], ends[b][2], ends[b][3]), b);
            for (int i = 0; i < 4; i++) {
                check.same("bale(" + b + ", " + (i + 1) + ")", sale.bale(b, i + 1), ends[b][i]);
            }
            check.same("in the store", sale.bale(b, 6), -1);
        }
        check.same("store", sale.count(2), 8);
    }

    private static void clean(int part, int weight, int due) {
        WoolSale sale = ofGrower();
        sale.bring(0, 20, 70, part, weight);
        check.same("clean weight of " + weight + " by " + part, sale.bale(0, 5), due);
        check.same("of the grower", sale.grower(0, 3), due);
    }

    private static void cleanWeightIsCut() {
        clean(40, 50, 20);
        clean(80, 200, 160);
        clean(41, 51, 20);
        clean(41, 100, 41);
        clean(79, 199, 157);
        clean(55, 101, 55);
        clean(50, 199, 99);
    }

    private static void fullOfBales() {
        WoolSale sale = new WoolSale();
        for (int g = 0; g < 8; g++) {
            sale.addGrower();
        }
        for (int b = 0; b < 48; b++) {
            check.same("bring", sale.bring(b % 8, 14 + b % 27, 70, 60, 100), b);
        }
        check.same("bales", sale.count(1), 48);
        check.same("store", sale.count(2), 48);
        check.same("the first one's microns", sale.bale(0, 1), 14);
        check.same("the last one's microns", sale.bale(47, 1), 34);
        check.same("bales of the last grower", sale.grower(7, 1), 6);
        check.same("pool all: four lots of twelve", sale.pool(10, 60, 12), 4);
        check.same("bales stay", sale.count(1), 48);
        check.same("store", sale.count(2), 0);
    }

    private static void endsOfPooling() {
        check.same("microns 0", ofBales(20, 70, 20, 70).pool(0, 60, 12), 1);
        check.same("microns 10", ofBales(20, 70, 30, 70).pool(10, 60, 12), 1);
        check.same("lengths 0", ofBales(20, 70, 30, 70).pool(10, 0, 12), 1);
        check.same("lengths 60", ofBales(20, 30, 20, 90).pool(10, 60, 12), 1);
        check.same("most 1", ofBales(20, 70, 20, 70).pool(10, 60, 1), 2);
        check.same("most 12", ofBales(20, 70, 20, 70).pool(10, 60, 12), 1);
    }

    private static void micronsOfALot() {
        pooled(ofBales(20, 70, 20, 70), 0, 60, 12, "0: 0 1\n");
        pooled(ofBales(20, 70, 21, 70), 0, 60, 12, "0: 0\n1: 1\n");
        pooled(ofBales(20, 70, 23, 70), 3, 60, 12, "0: 0 1\n");
        pooled(ofBales(20, 70, 24, 70), 3, 60, 12, "0: 0\n1: 1\n");
        pooled(ofBales(14, 70, 24, 70), 10, 60, 12, "0: 0 1\n");
        pooled(ofBales(14, 70, 25, 70), 10, 60, 12, "0: 0\n1: 1\n");
    }

    private static void lengthsOfALot() {
        pooled(ofBales(20, 70, 21, 70), 10, 0, 12, "0: 0 1\n");
        pooled(ofBales(20, 70, 21, 71), 10, 0, 12, "0: 0\n1: 1\n");
        pooled(ofBales(20, 70, 21, 69), 10, 0, 12, "0: 0\n1: 1\n");
        pooled(ofBales(20, 70, 21, 80), 10, 10, 12, "0: 0 1\n");
        pooled(ofBales(20, 70, 21, 81), 10, 10, 12, "0: 0\n1: 1\n");
        pooled(ofBales(20, 70, 21, 60), 10, 10, 12, "0: 0 1\n");
        pooled(ofBales(20, 70, 21, 59), 10, 10, 12, "0: 0\n1: 1\n");
        pooled(ofBales(20, 30, 20, 90), 10, 60, 12, "0: 0 1\n");
        pooled(ofBales(20, 30, 20, 91), 10, 60, 12, "0: 0\n1: 1\n");
        pooled(ofBales(20, 120, 21, 60), 10, 60, 12, "0: 0 1\n");
        pooled(ofBales(20, 120, 21, 59), 10, 60, 12, "0: 0\n1: 1\n");
    }

    private static void balesOfALot() {
        WoolSale sale = ofGrower();
        for (int i = 0; i < 13; i++) {
            sale.bring(0, 20, 70, 60, 100);
        }
        pooled(sale, 0, 0, 12, "0: 0 1 2 3 4 5 6 7 8 9 10 11\n1: 12\n");
        check.same("twelve bales", sale.lot(0, 0), 12);
        check.same("one bale", sale.lot(1, 0), 1);
        pooled(ofBales(20, 70, 20, 70, 20, 70), 0, 0, 1, "0: 0\n1: 1\n2: 2\n");
        pooled(ofBales(20, 70, 20, 70, 20, 70), 0, 0, 2, "0: 0 1\n1: 2\n");
        pooled(ofBales(20, 70, 20, 70, 20, 70), 0, 0, 3, "0: 0 1 2\n");
        // a lot that is full leaves those that would fit to the next one
        pooled(ofBales(20, 70, 20, 90, 21, 70, 22, 70, 22, 90), 2, 5, 2, "0: 0 2\n1: 1 4\n2: 3\n");
    }

    /** A bale is held against the first one of the lot, not against the latest one. */
    private static void theFirstOneCounts() {
        pooled(ofBales(20, 70, 21, 70, 22, 70), 1, 60, 12, "0: 0 1\n1: 2\n");
        pooled(ofBales(20, 70, 20, 80, 20, 90), 10, 10, 12, "0: 0 1\n1: 2\n");
        pooled(ofBales(20, 70, 21, 60, 22, 80), 10, 10, 12, "0: 0 1 2\n");
        // one that does not fit ends nothing: those behind it are gone through, too
        pooled(ofBales(20, 70, 21, 100, 22, 70), 10, 10, 12, "0: 0 2\n1: 1\n");
    }

    private static void orderOfBales() {
        pooled(ofBales(40, 70, 14, 70), 0, 0, 12, "0: 1\n1: 0\n");
        pooled(ofBales(20, 120, 20, 30), 0, 0, 12, "0: 1\n1: 0\n");
        pooled(ofBales(21, 30, 20, 120), 0, 0, 12, "0: 1\n1: 0\n");
        pooled(ofBales(20, 70, 20, 70, 20, 70), 0, 0, 12, "0: 0 1 2\n");
        pooled(ofBales(21, 70, 20, 71, 20, 70, 21, 69, 20, 70), 10, 60, 12, "0: 2 4 1 3 0\n");
    }

    private static void lotsAreNumberedOn() {
        WoolSale sale = ofBales(20, 70, 14, 70);
        pooled(sale, 0, 0, 12, "0: 1\n1: 0\n");
        sale.addBuyer(100000, 100);
        Check.teach(sale, 0, "bid 10;");
        sale.sell(0, 2, 0, 1);
        sale.bring(0, 14, 70, 60, 100);
        sale.bring(0, 20, 70, 60, 100);
        pooled(sale, 10, 60, 12, "0: 1 >0@10\n1: 0\n2: 2 3\n");
        check.same("lot of bale 1, which is sold", sale.bale(1, 6), 0);
        check.same("lot of bale 3", sale.bale(3, 6), 2);
        check.same("lots", sale.count(3), 3);
    }

    private static void thirtyLots() {
        WoolSale sale = ofGrower();
        for (int i = 0; i < 30; i++) {
            sale.bring(0, 20, 70, 60, 100);
        }
        check.same("30 lots at once", sale.pool(0, 0, 1), 30);
        check.same("bales of the last one", sale.lot(29, 0), 1);
        check.same("lot of the last bale", sale.bale(29, 6), 29);
        WoolSale sold = ofGrower();
        sold.addBuyer(100000, 100);
        Check.teach(sold, 0, "bid 1;");
        for (int i = 0; i < 30; i++) {
            sold.bring(0, 20, 70, 60, 100);
            check.same("one by one", sold.pool(0, 0, 1), 1);
            check.same("and sold", sold.sell(i, 2, 0, 1), 1);
        }
        sold.bring(0, 20, 70, 60, 100);
        check.state("those that are sold count, too", () -> sold.pool(0, 0, 1));
        check.same("it is in the store", sold.bale(30, 6), -1);
        WoolSale full = ofGrower();
        for (int i = 0; i < 48; i++) {
            full.bring(0, 14 + i % 24, 70, 60, 100);
        }
        check.same("48 bales in 24 lots", full.pool(0, 0, 2), 24);
        check.same("none is left", full.count(2), 0);
    }

    private static WoolSale ofTwo(int[] first, int[] second) {
        WoolSale sale = ofGrower();
        sale.bring(0, first[0], first[1], first[2], first[3]);
        sale.bring(0, second[0], second[1], second[2], second[3]);
        check.same("one lot of two", sale.pool(10, 60, 2), 1);
        return sale;
    }

    private static void facts(WoolSale sale, int... due) {
        for (int what = 0; what < due.length; what++) {
            check.same("lot(0, " + what + ")", sale.lot(0, what), due[what]);
        }
    }

    private static void meansAreCut() {
        // clean 20 and 160: (18 * 20 + 19 * 160) / 180 = 18.9, (30 * 20 + 90 * 160) / 180 = 83.3
        facts(ofTwo(new int[] {18, 30, 40, 50}, new int[] {19, 90, 80, 200}), 2, 250, 180, 18, 83, 72, 6);
        // clean 160 and 20: 18.1 and 36.7
        facts(ofTwo(new int[] {18, 30, 80, 200}, new int[] {19, 90, 40, 50}), 2, 250, 180, 18, 36, 72, 6);
        // the yield is reckoned of the cut clean weights: (20 + 20) * 100 / 102 = 39.2
        facts(ofTwo(new int[] {20, 70, 41, 51}, new int[] {20, 70, 40, 51}), 2, 102, 40, 20, 70, 39, 6);
        // equal clean weights: 20.5 and 70.5
        facts(ofTwo(new int[] {20, 70, 60, 100}, new int[] {21, 71, 60, 100}), 2, 200, 120, 20, 70, 60, 6);
    }

    private static void smallestAndGreatestLot() {
        WoolSale small = ofGrower();
        small.bring(0, 14, 30, 40, 50);
        small.pool(0, 0, 1);
        facts(small, 1, 50, 20, 14, 30, 40, 4, -1, -1, 0);
        WoolSale great = ofGrower();
        for (int i = 0; i < 12; i++) {
            great.bring(0, 40, 120, 80, 200);
        }
        great.pool(0, 0, 12);
        facts(great, 12, 2400, 1920, 40, 120, 80, 13, -1, -1, 0);
    }

    private static void classes() {
        int[][] due = {{14, 4}, {15, 5}, {17, 5}, {18, 6}, {20, 6}, {21, 7}, {38, 12}, {39, 13}, {40, 13}};
        for (int[] pair : due) {
            WoolSale sale = ofBales(pair[0], 70);
            sale.pool(0, 0, 1);
            check.same("class of " + pair[0] + " microns", sale.lot(0, 6), pair[1]);
        }
    }

    private static void whatIsNotSold() {
        WoolSale sale = Check.saleOf(2, 50);
        check.same("never offered", sale.lot(0, 9), 0);
        sale.sell(0, 2, 51, 1);
        check.same("offered, not sold: buyer", sale.lot(0, 7), -1);
        check.same("offered, not sold: price", sale.lot(0, 8), -1);
        check.same("offered once", sale.lot(0, 9), 1);
        check.same("the other one", sale.lot(1, 9), 0);
        WoolSale free = Check.saleOf(1, 0);
        free.sell(0, 2, 0, 1);
        check.same("sold for nothing: buyer", free.lot(0, 7), 0);
        check.same("sold for nothing: price", free.lot(0, 8), 0);
        check.same("offered once", free.lot(0, 9), 1);
    }
}
