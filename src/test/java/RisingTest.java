/** A rising sale skips whole rounds of raises: here it is held against one that walks through all of them. */
public final class RisingTest {
    private static final Check check = new Check("RisingTest");
    private static long seed = 20261119;

    public static void main(String[] args) {
        for (int run = 0; run < 400; run++) {
            compare(2 + next(5), run % 4 == 0 ? 9999 : 1 + next(run % 4 == 1 ? 20 : 400));
        }
        check.finish();
    }

    private static void compare(int buyers, int greatest) {
        int[] limits = new int[buyers];
        for (int b = 0; b < buyers; b++) {
            limits[b] = next(8) == 0 ? -1 : next(3) == 0 ? greatest : next(greatest + 1);
        }
        WoolSale sale = Check.saleOf(1, limits);
        for (int i = 0; i < 20; i++) {
            int reserve = Math.min(5000, next(2) == 0 ? 0 : next(greatest + 2));
            int step = next(2) == 0 ? 1 + next(3) : 1 + next(100);
            int[] due = walk(limits, reserve, step);
            String call = java.util.Arrays.toString(limits) + ", reserve " + reserve + ", step " + step;
            check.same(call + ": price", sale.would(0, 0, reserve, step, 0), due[0]);
            check.same(call + ": buyer", sale.would(0, 0, reserve, step, 1), due[1]);
        }
    }

    private static int[] walk(int[] limits, int reserve, int step) {
        int holder = raiser(limits, limits.length - 1, reserve, -1);
        if (holder < 0) {
            return new int[] {-1, -1};
        }
        int price = reserve;
        int other = raiser(limits, holder, price + step, holder);
        while (other >= 0) {
            holder = other;
            price += step;
            other = raiser(limits, holder, price + step, holder);
        }
        return new int[] {price, holder};
    }

    private static int raiser(int[] limits, int behind, int least, int holder) {
        for (int i = 1; i <= limits.length; i++) {
            int b = (behind + i) % limits.length;
            if (b != holder && limits[b] >= 0 && limits[b] >= least) {
                return b;
            }
        }
        return -1;
    }

    private static int next(int bound) {
        seed = seed * 6364136223846793005L + 1442695040888963407L;
        return (int) ((seed >>> 33) % bound);
    }
}
