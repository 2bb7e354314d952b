/**
 * Every refused call: the first values that are not allowed, on both sides, which exception is thrown, which one
 * of several, and that everything is as it was. A twin on which the call was not made has to tell the same,
 * and to answer the same calls the same way behind it.
 */
public final class RefusalTest {
    private static final Check check = new Check("RefusalTest");
    private static final Class<?> INDEX = IndexOutOfBoundsException.class;
    private static final Class<?> ARGUMENT = IllegalArgumentException.class;
    private static final Class<?> STATE = IllegalStateException.class;

    interface Setup {
        WoolSale make();
    }

    interface Made {
        long on(WoolSale sale);
    }

    interface OfOne {
        long on(WoolSale sale, int value);
    }

    public static void main(String[] args) {
        growersAndBales();
        bringRefused();
        poolRefused();
        poolOfTooManyLots();
        baleAndLot();
        addBuyerRefused();
        tapeRefused();
        teachAndLimit();
        buyerAndJoin();
        sellRefused();
        sessionRefused();
        wouldRefused();
        bestReserveRefused();
        bestKindRefused();
        told();
        nothingThere();
        check.finish();
    }

    /**
     * Two lots, of which 0 is sold in a ring, and a bale in the store; three buyers, of which 2 has no program;
     * a latest error at 4, a paper, and "bid 77;" on the tape.
     */
    private static WoolSale busy() {
        WoolSale sale = new WoolSale();
        sale.addGrower();
        sale.addGrower();
        sale.bring(0, 18, 80, 60, 100);
        sale.bring(1, 18, 82, 55, 130);
        sale.bring(0, 24, 60, 50, 150);
        sale.pool(2, 15, 3);
        sale.bring(1, 30, 100, 70, 80);
        sale.addBuyer(200000, 500);
        sale.addBuyer(150000, 300);
        sale.addBuyer(100000, 0);
        Check.teach(sale, 0, "let a=micron;when bought>0 bid a*2;bid a*3;");
        Check.teach(sale, 1, "bid index+40;");
        sale.join(0, 1);
        sale.join(1, 1);
        sale.sell(0, 3, 10, 1);
        Check.teach(sale, 0, "bid nix;");
        sale.list();
        Check.write(sale, "bid 77;");
        return sale;
    }

    private static WoolSale ofGrowers(int growers) {
        WoolSale sale = busy();
        for (int i = 2; i < growers; i++) {
            sale.addGrower();
        }
        return sale;
    }

    private static WoolSale ofBales(int bales) {
        WoolSale sale = busy();
        for (int i = 4; i < bales; i++) {
            sale.bring(0, 21, 60, 60, 100);
        }
        return sale;
    }

    private static WoolSale ofLots(int lots, int store) {
        WoolSale sale = busy();
        for (int i = 3; i < lots; i++) {
            sale.bring(0, 21, 60, 60, 100);
        }
        sale.pool(0, 0, 1);
        for (int i = 0; i < store; i++) {
            sale.bring(0, 21, 60, 60, 100);
        }
        return sale;
    }

    private static WoolSale ofBuyers(int buyers) {
        WoolSale sale = busy();
        for (int i = 3; i < buyers; i++) {
            sale.addBuyer(5000, 50);
        }
        return sale;
    }

    private static WoolSale ofTape(int bytes) {
        WoolSale sale = busy();
        sale.trim(0);
        while (sale.count(6) < bytes) {
            sale.feed(0x70617373, 0x3b202020, 0x20202020, 0x20202020, 0x20202020);
        }
        sale.trim(bytes);
        return sale;
    }

    private static void refused(String call, Class<?> due, Setup setup, Made made) {
        WoolSale sale = setup.make();
        WoolSale twin = setup.make();
        check.same(call, thrownBy(sale, made), due.getSimpleName());
        check.same(call + ": what is told behind it", allOf(sale), allOf(twin));
        check.same(call + ": how it goes on", goOn(sale), goOn(twin));
    }

    private static void refused(String call, Class<?> due, Made made) {
        refused(call, due, RefusalTest::busy, made);
    }

    /** The first values that are not allowed, and those that are furthest off. */
    private static void outside(String call, Class<?> due, int least, int most, OfOne made) {
        int[] values = {least - 1, most + 1, Integer.MIN_VALUE, Integer.MAX_VALUE};
        for (int value : values) {
            refused(call + " of " + value, due, sale -> made.on(sale, value));
        }
    }

    private static String thrownBy(WoolSale sale, Made made) {
        try {
            return "answered " + made.on(sale);
        } catch (RuntimeException e) {
            return e.getClass().getSimpleName();
        }
    }

    private static String allOf(WoolSale sale) {
        StringBuilder text = new StringBuilder();
        text.append(sale.digest()).append(" error at ").append(sale.errorAt()).append(" mean ").append(sale.mean());
        for (int b = 0; b < sale.count(1); b++) {
            text.append("\nbale ").append(sale.bale(b, 1)).append(' ').append(sale.bale(b, 2));
        }
        for (int b = 0; b < sale.count(5); b++) {
            text.append("\nlimits of ").append(b);
            for (int l = 0; l < sale.count(3); l++) {
                text.append(' ').append(sale.limit(b, l));
            }
        }
        return text.append('\n').toString();
    }

    private static String goOn(WoolSale sale) {
        StringBuilder text = new StringBuilder();
        Made[] calls = {
            x -> x.teach(0), x -> x.limit(0, 0), x -> x.teach(2), x -> x.addGrower(),
            x -> x.bring(1, 20, 80, 60, 100), x -> x.addBuyer(1000, 10), x -> x.pool(5, 30, 4),
            x -> x.bestKind(10, 3), x -> x.session(0, 10, 3), x -> x.list(), x -> x.digest()};
        for (Made call : calls) {
            text.append(thrownBy(sale, call)).append('\n');
        }
        return text.toString();
    }

    private static void growersAndBales() {
        check.same("the 8th grower", ofGrowers(7).addGrower(), 7);
        refused("the 9th grower", STATE, () -> ofGrowers(8), x -> x.addGrower());
        check.same("the 48th bale", ofBales(47).bring(0, 20, 70, 60, 100), 47);
        refused("the 49th bale", STATE, () -> ofBales(48), x -> x.bring(0, 20, 70, 60, 100));
    }

    private static void bringRefused() {
        outside("bring by grower", INDEX, 0, 1, (x, v) -> x.bring(v, 20, 70, 60, 100));
        outside("bring with micron", ARGUMENT, 14, 40, (x, v) -> x.bring(0, v, 70, 60, 100));
        outside("bring with length", ARGUMENT, 30, 120, (x, v) -> x.bring(0, 20, v, 60, 100));
        outside("bring with part", ARGUMENT, 40, 80, (x, v) -> x.bring(0, 20, 70, v, 100));
        outside("bring with weight", ARGUMENT, 50, 200, (x, v) -> x.bring(0, 20, 70, 60, v));
        refused("grower ahead of micron", INDEX, x -> x.bring(2, 13, 70, 60, 100));
        refused("grower ahead of weight", INDEX, x -> x.bring(-1, 20, 70, 60, 201));
        refused("grower ahead of a full store", INDEX, () -> ofBales(48), x -> x.bring(2, 20, 70, 60, 100));
        refused("micron ahead of a full store", ARGUMENT, () -> ofBales(48), x -> x.bring(0, 41, 70, 60, 100));
        refused("weight ahead of a full store", ARGUMENT, () -> ofBales(48), x -> x.bring(0, 20, 70, 60, 49));
        refused("grower ahead of all", INDEX, () -> ofBales(48), x -> x.bring(2, 13, 29, 39, 49));
    }

    private static void poolRefused() {
        outside("pool by microns", ARGUMENT, 0, 10, (x, v) -> x.pool(v, 0, 1));
        outside("pool by lengths", ARGUMENT, 0, 60, (x, v) -> x.pool(0, v, 1));
        outside("pool of at most", ARGUMENT, 1, 12, (x, v) -> x.pool(0, 0, v));
    }

    private static void poolOfTooManyLots() {
        check.same("29 lots and one", ofLots(29, 1).pool(0, 0, 1), 1);
        refused("29 lots and two", STATE, () -> ofLots(29, 2), x -> x.pool(0, 0, 1));
        check.same("29 lots and one of two", ofLots(29, 2).pool(0, 0, 2), 1);
        check.same("30 lots and none", ofLots(30, 0).pool(0, 0, 1), 0);
        refused("30 lots and one", STATE, () -> ofLots(30, 1), x -> x.pool(10, 60, 12));
        refused("2 lots and 46", STATE, () -> ofBales(48), x -> x.pool(0, 0, 1));
        refused("microns ahead of too many lots", ARGUMENT, () -> ofLots(30, 1), x -> x.pool(11, 0, 1));
        refused("most ahead of too many lots", ARGUMENT, () -> ofLots(30, 1), x -> x.pool(0, 0, 0));
    }

    private static void baleAndLot() {
        outside("bale", INDEX, 0, 3, (x, v) -> x.bale(v, 0));
        outside("bale, what", INDEX, 0, 6, (x, v) -> x.bale(0, v));
        outside("lot", INDEX, 0, 1, (x, v) -> x.lot(v, 0));
        outside("lot, what", INDEX, 0, 9, (x, v) -> x.lot(0, v));
        check.same("the last bale", busy().bale(3, 1), 30);
        check.same("the last lot", busy().lot(1, 3), 24);
        check.same("bale 47", ofBales(48).bale(47, 1), 21);
        refused("bale 48", INDEX, () -> ofBales(48), x -> x.bale(48, 1));
        check.same("lot 29", ofLots(30, 0).lot(29, 0), 1);
        refused("lot 30", INDEX, () -> ofLots(30, 1), x -> x.lot(30, 0));
    }

    private static void addBuyerRefused() {
        outside("purse", ARGUMENT, 0, 10000000, (x, v) -> x.addBuyer(v, 0));
        outside("need", ARGUMENT, 0, 100000, (x, v) -> x.addBuyer(0, v));
        check.same("the 6th buyer", ofBuyers(5).addBuyer(0, 0), 5);
        refused("the 7th buyer", STATE, () -> ofBuyers(6), x -> x.addBuyer(0, 0));
        refused("purse ahead of six buyers", ARGUMENT, () -> ofBuyers(6), x -> x.addBuyer(10000001, 0));
        refused("need ahead of six buyers", ARGUMENT, () -> ofBuyers(6), x -> x.addBuyer(0, -1));
    }

    private static void tapeRefused() {
        check.same("1000 bytes", ofTape(980).feed(1, 2, 3, 4, 5), 1000);
        refused("1001 bytes", STATE, () -> ofTape(981), x -> x.feed(1, 2, 3, 4, 5));
        refused("1020 bytes", STATE, () -> ofTape(1000), x -> x.feed(1, 2, 3, 4, 5));
        outside("trim", ARGUMENT, 0, 7, (x, v) -> x.trim(v));
        refused("trim of a full tape", ARGUMENT, () -> ofTape(1000), x -> x.trim(1001));
        refused("trim of an empty tape", ARGUMENT, () -> ofTape(0), x -> x.trim(1));
        refused("trim of an empty tape", ARGUMENT, () -> ofTape(0), x -> x.trim(-1));
    }

    private static void teachAndLimit() {
        outside("teach", INDEX, 0, 2, (x, v) -> x.teach(v));
        refused("teach of a seventh", INDEX, () -> ofBuyers(6), x -> x.teach(6));
        outside("limit of buyer", INDEX, 0, 2, (x, v) -> x.limit(v, 0));
        outside("limit for lot", INDEX, 0, 1, (x, v) -> x.limit(0, v));
        refused("limit of one without a program, for no lot", INDEX, x -> x.limit(2, 2));
    }

    private static void buyerAndJoin() {
        outside("buyer", INDEX, 0, 2, (x, v) -> x.buyer(v, 0));
        outside("buyer, what", INDEX, 0, 8, (x, v) -> x.buyer(0, v));
        outside("join of buyer", INDEX, 0, 2, (x, v) -> x.join(v, 0));
        outside("join to ring", ARGUMENT, -1, 2, (x, v) -> x.join(0, v));
        refused("buyer ahead of ring", INDEX, x -> x.join(3, 3));
        refused("buyer ahead of ring", INDEX, x -> x.join(-1, -2));
        refused("join of a seventh", INDEX, () -> ofBuyers(6), x -> x.join(6, 0));
    }

    private static void sellRefused() {
        outside("sell lot", INDEX, 0, 1, (x, v) -> x.sell(v, 0, 0, 1));
        outside("sell by kind", ARGUMENT, 0, 3, (x, v) -> x.sell(1, v, 0, 1));
        outside("sell from reserve", ARGUMENT, 0, 5000, (x, v) -> x.sell(1, 0, v, 1));
        outside("sell by step", ARGUMENT, 1, 100, (x, v) -> x.sell(1, 0, 0, v));
        refused("what is sold", STATE, x -> x.sell(0, 0, 0, 1));
        refused("lot ahead of kind", INDEX, x -> x.sell(2, 4, 0, 1));
        refused("lot ahead of step", INDEX, x -> x.sell(-1, 0, 0, 0));
        refused("kind ahead of sold", ARGUMENT, x -> x.sell(0, 4, 0, 1));
        refused("reserve ahead of sold", ARGUMENT, x -> x.sell(0, 0, 5001, 1));
        refused("step ahead of sold", ARGUMENT, x -> x.sell(0, 0, 0, 101));
    }

    private static void sessionRefused() {
        outside("session by kind", ARGUMENT, 0, 3, (x, v) -> x.session(v, 0, 1));
        outside("session from reserve", ARGUMENT, 0, 5000, (x, v) -> x.session(0, v, 1));
        outside("session by step", ARGUMENT, 1, 100, (x, v) -> x.session(0, 0, v));
    }

    private static void wouldRefused() {
        outside("would of lot", INDEX, 0, 1, (x, v) -> x.would(v, 0, 0, 1, 0));
        outside("would by kind", ARGUMENT, 0, 3, (x, v) -> x.would(1, v, 0, 1, 0));
        outside("would from reserve", ARGUMENT, 0, 5000, (x, v) -> x.would(1, 0, v, 1, 1));
        outside("would by step", ARGUMENT, 1, 100, (x, v) -> x.would(1, 0, 0, v, 2));
        outside("would, what", INDEX, 0, 2, (x, v) -> x.would(1, 0, 0, 1, v));
        refused("what is sold", STATE, x -> x.would(0, 0, 0, 1, 0));
        refused("lot ahead of kind", INDEX, x -> x.would(2, 4, 0, 1, 0));
        refused("what ahead of kind", INDEX, x -> x.would(1, 4, 0, 1, 3));
        refused("what ahead of sold", INDEX, x -> x.would(0, 0, 0, 1, -1));
        refused("step ahead of sold", ARGUMENT, x -> x.would(0, 0, 0, 0, 0));
    }

    private static void bestReserveRefused() {
        outside("bestReserve of lot", INDEX, 0, 1, (x, v) -> x.bestReserve(v, 0, 1));
        outside("bestReserve by kind", ARGUMENT, 0, 3, (x, v) -> x.bestReserve(1, v, 1));
        outside("bestReserve by step", ARGUMENT, 1, 100, (x, v) -> x.bestReserve(1, 0, v));
        refused("what is sold", STATE, x -> x.bestReserve(0, 0, 1));
        refused("lot ahead of kind", INDEX, x -> x.bestReserve(2, 4, 1));
        refused("lot ahead of step", INDEX, x -> x.bestReserve(-1, 0, 0));
        refused("kind ahead of sold", ARGUMENT, x -> x.bestReserve(0, -1, 1));
        refused("step ahead of sold", ARGUMENT, x -> x.bestReserve(0, 0, 101));
    }

    private static void bestKindRefused() {
        outside("bestKind from reserve", ARGUMENT, 0, 5000, (x, v) -> x.bestKind(v, 1));
        outside("bestKind by step", ARGUMENT, 1, 100, (x, v) -> x.bestKind(0, v));
    }

    private static void told() {
        outside("grower", INDEX, 0, 1, (x, v) -> x.grower(v, 0));
        outside("grower, what", INDEX, 0, 3, (x, v) -> x.grower(0, v));
        refused("grower 8", INDEX, () -> ofGrowers(8), x -> x.grower(8, 1));
        outside("ring", INDEX, 0, 2, (x, v) -> x.ring(v, 0));
        outside("ring, what", INDEX, 0, 3, (x, v) -> x.ring(0, v));
        outside("index", INDEX, 4, 13, (x, v) -> x.index(v));
        outside("count", INDEX, 0, 10, (x, v) -> x.count(v));
        int bytes = busy().count(10);
        outside("byteAt", INDEX, 0, bytes - 1, (x, v) -> x.byteAt(v));
        check.same("the first byte", busy().byteAt(0), '0');
        check.same("the last byte", busy().byteAt(bytes - 1), 10);
        refused("byte 1023", INDEX, x -> x.byteAt(1023));
        refused("byte 1024", INDEX, x -> x.byteAt(1024));
    }

    /** On a new object nothing has a number yet. */
    private static void nothingThere() {
        Setup none = WoolSale::new;
        refused("no grower", INDEX, none, x -> x.bring(0, 20, 70, 60, 100));
        refused("no grower, and micron wrong", INDEX, none, x -> x.bring(0, 13, 70, 60, 100));
        refused("no grower", INDEX, none, x -> x.grower(0, 0));
        refused("no bale", INDEX, none, x -> x.bale(0, 0));
        refused("no lot", INDEX, none, x -> x.lot(0, 0));
        refused("no lot", INDEX, none, x -> x.sell(0, 0, 0, 1));
        refused("no lot, and kind wrong", INDEX, none, x -> x.sell(0, 4, 0, 1));
        refused("no lot", INDEX, none, x -> x.would(0, 0, 0, 1, 0));
        refused("no lot", INDEX, none, x -> x.bestReserve(0, 0, 1));
        refused("no buyer", INDEX, none, x -> x.buyer(0, 0));
        refused("no buyer", INDEX, none, x -> x.teach(0));
        refused("no buyer", INDEX, none, x -> x.join(0, 0));
        refused("no buyer, and ring wrong", INDEX, none, x -> x.join(0, 3));
        refused("no buyer", INDEX, none, x -> x.limit(0, 0));
        refused("a buyer, and no lot", INDEX, () -> ofOneBuyer(), x -> x.limit(0, 0));
        refused("an empty tape", ARGUMENT, none, x -> x.trim(1));
        refused("an empty paper", INDEX, none, x -> x.byteAt(0));
        refused("kind wrong, and no lot", ARGUMENT, none, x -> x.session(4, 0, 1));
        refused("step wrong, and no lot", ARGUMENT, none, x -> x.bestKind(0, 0));
        refused("most wrong, and no bale", ARGUMENT, none, x -> x.pool(0, 0, 0));
    }

    private static WoolSale ofOneBuyer() {
        WoolSale sale = new WoolSale();
        sale.addBuyer(1000, 10);
        Check.teach(sale, 0, "bid 5;");
        return sale;
    }
}
