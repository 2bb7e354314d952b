import java.util.ArrayList;
import java.util.Comparator;
import java.util.HashMap;
import java.util.List;
import java.util.Map;
import java.util.TreeMap;

/** A second sale, written straight from the document and slow: the class is held against it. */
final class Model {
    private static final class Bale {
        int number;
        int grower;
        int micron;
        int length;
        int part;
        int weight;
        int lot = -1;

        int clean() {
            return weight * part / 100;
        }
    }

    private static final class Lot {
        final List<Bale> bales = new ArrayList<>();
        int buyer = -1;
        int price = -1;
        int offered;

        int weight() {
            return bales.stream().mapToInt(bale -> bale.weight).sum();
        }

        int clean() {
            return bales.stream().mapToInt(Bale::clean).sum();
        }

        int micron() {
            return bales.stream().mapToInt(bale -> bale.micron * bale.clean()).sum() / clean();
        }

        int length() {
            return bales.stream().mapToInt(bale -> bale.length * bale.clean()).sum() / clean();
        }
    }

    private static final class Buyer {
        int purse;
        int need;
        int bought;
        int lots;
        int ring = -1;
        int grudge;
        int got;
        int paid;
        ModelProgram program;
    }

    private static final class Outcome {
        final List<Integer> bidders = new ArrayList<>();
        int price = -1;
        int buyer = -1;
    }

    private List<Integer> coins = new ArrayList<>();
    private final List<Bale> bales = new ArrayList<>();
    private List<Lot> lots = new ArrayList<>();
    private List<Buyer> buyers = new ArrayList<>();
    private Map<Integer, Integer> indexes = new TreeMap<>();
    private int[] ringLots = new int[3];
    private int[] ringShares = new int[3];
    private int paid;
    private int left;
    private String tape = "";
    private int errorAt = -1;
    private String paper = "";

    Model() {
        for (int c = 4; c <= 13; c++) {
            indexes.put(c, 0);
        }
    }

    int addGrower() {
        state(coins.size() < 8);
        coins.add(0);
        return coins.size() - 1;
    }

    int bring(int grower, int micron, int length, int part, int weight) {
        place(grower, coins.size());
        argument(micron, 14, 40);
        argument(length, 30, 120);
        argument(part, 40, 80);
        argument(weight, 50, 200);
        state(bales.size() < 48);
        Bale bale = new Bale();
        bale.number = bales.size();
        bale.grower = grower;
        bale.micron = micron;
        bale.length = length;
        bale.part = part;
        bale.weight = weight;
        bales.add(bale);
        return bale.number;
    }

    int pool(int microns, int lengths, int most) {
        argument(microns, 0, 10);
        argument(lengths, 0, 60);
        argument(most, 1, 12);
        List<Bale> store = new ArrayList<>(bales.stream().filter(bale -> bale.lot < 0).toList());
        store.sort(Comparator.<Bale>comparingInt(bale -> bale.micron).thenComparingInt(bale -> bale.length)
                .thenComparingInt(bale -> bale.number));
        List<Lot> made = new ArrayList<>();
        while (!store.isEmpty()) {
            Lot lot = new Lot();
            Bale first = store.get(0);
            for (Bale bale : store) {
                if (lot.bales.size() < most && bale.micron <= first.micron + microns
                        && Math.abs(bale.length - first.length) <= lengths) {
                    lot.bales.add(bale);
                }
            }
            store.removeAll(lot.bales);
            made.add(lot);
        }
        state(lots.size() + made.size() <= 30);
        for (Lot lot : made) {
            lot.bales.forEach(bale -> bale.lot = lots.size());
            lots.add(lot);
        }
        return made.size();
    }

    int bale(int number, int what) {
        place(number, bales.size());
        place(what, 7);
        Bale bale = bales.get(number);
        return new int[] {bale.grower, bale.micron, bale.length, bale.part, bale.weight, bale.clean(),
            bale.lot}[what];
    }

    int lot(int number, int what) {
        place(number, lots.size());
        place(what, 10);
        Lot lot = lots.get(number);
        return new int[] {lot.bales.size(), lot.weight(), lot.clean(), lot.micron(), lot.length(),
            lot.clean() * 100 / lot.weight(), lot.micron() / 3, lot.buyer, lot.price, lot.offered}[what];
    }

    int addBuyer(int purse, int need) {
        argument(purse, 0, 10000000);
        argument(need, 0, 100000);
        state(buyers.size() < 6);
        Buyer buyer = new Buyer();
        buyer.purse = purse;
        buyer.need = need;
        buyers.add(buyer);
        return buyers.size() - 1;
    }

    int feed(int... words) {
        state(tape.length() + 20 <= 1000);
        StringBuilder text = new StringBuilder(tape);
        for (int word : words) {
            for (byte b : java.nio.ByteBuffer.allocate(4).putInt(word).array()) {
                text.append((char) Byte.toUnsignedInt(b));
            }
        }
        tape = text.toString();
        return tape.length();
    }

    int trim(int n) {
        argument(n, 0, tape.length());
        tape = tape.substring(0, n);
        return n;
    }

    int teach(int buyer) {
        place(buyer, buyers.size());
        ModelProgram program = new ModelProgram(tape);
        tape = "";
        errorAt = program.errorPlace;
        if (program.error == 0) {
            buyers.get(buyer).program = program;
        }
        return program.error;
    }

    int errorAt() {
        return errorAt;
    }

    int buyer(int number, int what) {
        place(number, buyers.size());
        place(what, 9);
        Buyer buyer = buyers.get(number);
        return new int[] {buyer.purse, buyer.need, buyer.bought, buyer.lots, buyer.ring, buyer.grudge, buyer.got,
            buyer.paid, buyer.program == null ? -1 : buyer.program.parts()}[what];
    }

    int limit(int buyer, int lot) {
        place(buyer, buyers.size());
        place(lot, lots.size());
        return limitNow(buyers.get(buyer), lot);
    }

    private int limitNow(Buyer buyer, int lot) {
        if (buyer.program == null) {
            return -1;
        }
        Map<String, Integer> given = new HashMap<>();
        String[] ofLot = {"bales", "weight", "clean", "micron", "length", "yield", "class"};
        for (int what = 0; what < ofLot.length; what++) {
            given.put(ofLot[what], lot(lot, what));
        }
        given.put("index", indexes.get(lot(lot, 6)));
        given.put("need", buyer.need);
        given.put("purse", buyer.purse);
        given.put("bought", buyer.bought);
        given.put("rivals", (int) buyers.stream().filter(b -> b != buyer && b.program != null).count());
        given.put("turn", lot);
        Integer bid = buyer.program.bid(given);
        return bid == null ? -1 : Math.min(Math.min(Math.max(bid, 0), 9999), buyer.purse / lot(lot, 2));
    }

    int join(int buyer, int ring) {
        place(buyer, buyers.size());
        argument(ring, -1, 2);
        buyers.get(buyer).ring = ring;
        buyers.get(buyer).grudge = 0;
        return ring < 0 ? 0 : members(ring).size();
    }

    private List<Buyer> members(int ring) {
        return buyers.stream().filter(buyer -> buyer.ring == ring).toList();
    }

    int sell(int lot, int kind, int reserve, int step) {
        place(lot, lots.size());
        terms(kind, reserve, step);
        state(lots.get(lot).buyer < 0);
        return offer(lot, kind, reserve, step);
    }

    int session(int kind, int reserve, int step) {
        terms(kind, reserve, step);
        int sold = 0;
        for (int lot = 0; lot < lots.size(); lot++) {
            if (lots.get(lot).buyer < 0 && offer(lot, kind, reserve, step) >= 0) {
                sold++;
            }
        }
        return sold;
    }

    int would(int lot, int kind, int reserve, int step, int what) {
        place(lot, lots.size());
        place(what, 3);
        terms(kind, reserve, step);
        state(lots.get(lot).buyer < 0);
        Outcome outcome = outcome(limitsNow(lot), kind, reserve, step);
        return new int[] {outcome.price, outcome.buyer, outcome.bidders.size()}[what];
    }

    int bestReserve(int lot, int kind, int step) {
        place(lot, lots.size());
        terms(kind, 0, step);
        state(lots.get(lot).buyer < 0);
        int[] limits = limitsNow(lot);
        int best = -1;
        for (int reserve = 1000; reserve >= 0; reserve -= 20) {
            int price = outcome(limits, kind, reserve, step).price;
            if (price >= 0 && (best < 0 || price >= outcome(limits, kind, best, step).price)) {
                best = reserve;
            }
        }
        return best;
    }

    int bestKind(int reserve, int step) {
        terms(0, reserve, step);
        int best = -1;
        int most = 0;
        for (int kind = 0; kind < 4; kind++) {
            Model trial = copy();
            trial.session(kind, reserve, step);
            int brought = sum(trial.coins) - sum(coins);
            if (brought > most) {
                best = kind;
                most = brought;
            }
        }
        return best;
    }

    private Model copy() {
        Model copy = new Model();
        copy.coins = new ArrayList<>(coins);
        copy.indexes = new TreeMap<>(indexes);
        copy.ringLots = ringLots.clone();
        copy.ringShares = ringShares.clone();
        for (Lot lot : lots) {
            Lot other = new Lot();
            other.bales.addAll(lot.bales);
            other.buyer = lot.buyer;
            other.price = lot.price;
            copy.lots.add(other);
        }
        for (Buyer buyer : buyers) {
            Buyer other = new Buyer();
            other.purse = buyer.purse;
            other.need = buyer.need;
            other.bought = buyer.bought;
            other.ring = buyer.ring;
            other.grudge = buyer.grudge;
            other.program = buyer.program;
            copy.buyers.add(other);
        }
        return copy;
    }

    private int[] limitsNow(int lot) {
        return buyers.stream().mapToInt(buyer -> limitNow(buyer, lot)).toArray();
    }

    private Outcome outcome(int[] limits, int kind, int reserve, int step) {
        Outcome outcome = new Outcome();
        for (int b = 0; b < limits.length; b++) {
            if (limits[b] >= 0 && limits[b] >= reserve && mouthOf(b, limits) == b) {
                outcome.bidders.add(b);
            }
        }
        if (!outcome.bidders.isEmpty()) {
            if (kind == 0) {
                rise(outcome, limits, reserve, step);
            } else if (kind == 1) {
                fall(outcome, limits, reserve, step);
            } else {
                open(outcome, limits, kind, reserve);
            }
        }
        return outcome;
    }

    /** Who of the ring of a buyer bids. */
    private int mouthOf(int buyer, int[] limits) {
        int mouth = buyer;
        for (int b = limits.length - 1; b >= 0 && buyers.get(buyer).ring >= 0; b--) {
            if (buyers.get(b).ring == buyers.get(buyer).ring
                    && (limits[b] > limits[mouth] || limits[b] == limits[mouth] && b < mouth)) {
                mouth = b;
            }
        }
        return mouth;
    }

    private static void rise(Outcome outcome, int[] limits, int reserve, int step) {
        outcome.buyer = outcome.bidders.get(0);
        outcome.price = reserve;
        boolean raised = true;
        while (raised) {
            raised = false;
            for (int i = 1; i < limits.length && !raised; i++) {
                int b = (outcome.buyer + i) % limits.length;
                if (outcome.bidders.contains(b) && limits[b] >= outcome.price + step) {
                    outcome.buyer = b;
                    outcome.price += step;
                    raised = true;
                }
            }
        }
    }

    private static void fall(Outcome outcome, int[] limits, int reserve, int step) {
        for (outcome.price = reserve + 40 * step; outcome.buyer < 0; outcome.price -= step) {
            for (int b : outcome.bidders) {
                if (limits[b] >= outcome.price) {
                    outcome.buyer = b;
                    return;
                }
            }
        }
    }

    private static void open(Outcome outcome, int[] limits, int kind, int reserve) {
        List<Integer> byLimit = new ArrayList<>(outcome.bidders);
        byLimit.sort(Comparator.<Integer>comparingInt(b -> -limits[b]).thenComparingInt(b -> b));
        outcome.buyer = byLimit.get(0);
        outcome.price = kind == 2 ? limits[byLimit.get(0)] : byLimit.size() > 1 ? limits[byLimit.get(1)] : reserve;
    }

    private int offer(int number, int kind, int reserve, int step) {
        Lot lot = lots.get(number);
        lot.offered++;
        int[] limits = limitsNow(number);
        Outcome outcome = outcome(limits, kind, reserve, step);
        if (outcome.buyer < 0) {
            return -1;
        }
        lot.buyer = outcome.buyer;
        lot.price = outcome.price;
        Buyer buyer = buyers.get(lot.buyer);
        buyer.purse -= lot.price * lot.clean();
        buyer.paid += lot.price * lot.clean();
        paid += lot.price * lot.clean();
        buyer.bought += lot.clean();
        buyer.lots++;
        buyer.need = Math.max(0, buyer.need - lot.clean());
        for (Bale bale : lot.bales) {
            long part = (long) lot.price * bale.clean() * 95 / 100;
            coins.set(bale.grower, coins.get(bale.grower) + (int) part);
        }
        int old = indexes.get(lot.micron() / 3);
        indexes.put(lot.micron() / 3, old == 0 ? lot.price : (3 * old + lot.price) / 4);
        if (buyer.ring >= 0 && members(buyer.ring).size() >= 2) {
            share(buyer, limits, lot.price, lot.clean());
        }
        return lot.price;
    }

    private void share(Buyer buyer, int[] limits, int price, int clean) {
        int ring = buyer.ring;
        List<Buyer> others = members(ring).stream().filter(member -> member != buyer).toList();
        int n = others.size() + 1;
        long saving = 0;
        for (Buyer other : others) {
            long limit = limits[buyers.indexOf(other)];
            saving = limit < 0 ? saving : Math.max(saving, (limit - price) * clean);
        }
        ringLots[ring]++;
        for (Buyer other : others) {
            int share = (int) Math.min(saving / n, buyer.purse);
            buyer.purse -= share;
            other.purse += share;
            other.got += share;
            ringShares[ring] += share;
            long limit = limits[buyers.indexOf(other)];
            boolean wronged = limit > price && share < (limit - price) * clean / (2 * n);
            other.grudge = wronged ? other.grudge + 1 : Math.max(0, other.grudge - 1);
        }
        for (Buyer other : others) {
            if (other.grudge == 3) {
                other.ring = -1;
                other.grudge = 0;
                left++;
            }
        }
    }

    int grower(int grower, int what) {
        place(grower, coins.size());
        place(what, 4);
        List<Bale> own = bales.stream().filter(bale -> bale.grower == grower).toList();
        int sold = (int) own.stream().filter(bale -> bale.lot >= 0 && lots.get(bale.lot).buyer >= 0).count();
        return new int[] {coins.get(grower), own.size(), sold, own.stream().mapToInt(Bale::clean).sum()}[what];
    }

    int ring(int ring, int what) {
        place(ring, 3);
        place(what, 4);
        int set = members(ring).stream().mapToInt(member -> (int) Math.pow(2, buyers.indexOf(member))).sum();
        return new int[] {members(ring).size(), set, ringLots[ring], ringShares[ring]}[what];
    }

    int index(int micronClass) {
        place(micronClass - 4, 10);
        return indexes.get(micronClass);
    }

    int count(int what) {
        place(what, 11);
        int stored = (int) bales.stream().filter(bale -> bale.lot < 0).count();
        int sold = (int) lots.stream().filter(lot -> lot.buyer >= 0).count();
        return new int[] {coins.size(), bales.size(), stored, lots.size(), sold, buyers.size(), tape.length(), paid,
            paid - sum(coins), left, paper.length()}[what];
    }

    int list() {
        paper = "";
        for (int l = 0; l < lots.size(); l++) {
            Lot lot = lots.get(l);
            paper += l + ":";
            for (Bale bale : lot.bales) {
                paper += " " + bale.number;
            }
            paper += (lot.buyer < 0 ? "" : " >" + lot.buyer + "@" + lot.price) + "\n";
        }
        return paper.length();
    }

    int byteAt(int index) {
        place(index, paper.length());
        return paper.charAt(index);
    }

    double mean() {
        int clean = lots.stream().filter(lot -> lot.buyer >= 0).mapToInt(Lot::clean).sum();
        return clean == 0 ? 0 : (double) paid / clean;
    }

    long digest() {
        List<Integer> told = new ArrayList<>();
        for (int what = 0; what < 11; what++) {
            told.add(count(what));
        }
        for (int i = 0; i < coins.size() * 4; i++) {
            told.add(grower(i / 4, i % 4));
        }
        bales.forEach(bale -> told.add(bale.lot));
        for (int i = 0; i < lots.size() * 10; i++) {
            told.add(lot(i / 10, i % 10));
        }
        for (int i = 0; i < buyers.size() * 9; i++) {
            told.add(buyer(i / 9, i % 9));
        }
        for (int i = 0; i < 12; i++) {
            told.add(ring(i / 4, i % 4));
        }
        told.addAll(indexes.values());
        paper.chars().forEach(told::add);
        long d = 569;
        for (int x : told) {
            d = d * 31 + x;
        }
        return d;
    }

    private static int sum(List<Integer> numbers) {
        return numbers.stream().mapToInt(Integer::intValue).sum();
    }

    private static void terms(int kind, int reserve, int step) {
        argument(kind, 0, 3);
        argument(reserve, 0, 5000);
        argument(step, 1, 100);
    }

    private static void place(int place, int size) {
        if (place < 0 || place >= size) {
            throw new IndexOutOfBoundsException();
        }
    }

    private static void argument(int value, int least, int most) {
        if (value < least || value > most) {
            throw new IllegalArgumentException();
        }
    }

    private static void state(boolean holds) {
        if (!holds) {
            throw new IllegalStateException();
        }
    }
}
