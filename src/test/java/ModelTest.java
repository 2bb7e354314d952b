import java.util.function.Supplier;

/**
 * All promises together: long runs of calls, drawn by a fixed row of numbers, on the class and on the model.
 * With two numbers behind its name the test makes that many runs, drawn from that seed.
 */
public final class ModelTest {
    private static final Check check = new Check("ModelTest");
    private static final int[] FACES = {Integer.MIN_VALUE, Integer.MAX_VALUE, -1, 0, 1, 48, 100, 1000};
    private static final String SIGNS = "; ( ) [ ] , + - * / < > = <= >= let when bid pass and or not min max "
            + "a b1 micron need 7 99999 123456 abcdefghij abcdefghijk \n . A \u0000 \u00ff";
    private static final String[] PIECES = SIGNS.split(" ");
    private static long seed;
    private static WoolSale sale;
    private static Model model;
    private static StringBuilder calls;
    private static int letsTold;
    // Behind the first difference of a run all others would only follow from it.
    private static boolean astray;

    public static void main(String[] args) {
        int runs = args.length > 0 ? Integer.parseInt(args[0]) : 150;
        seed = args.length > 1 ? Long.parseLong(args[1]) : 20261119;
        for (int run = 0; run < runs; run++) {
            run();
        }
        check.finish();
    }

    private static void run() {
        sale = new WoolSale();
        model = new Model();
        calls = new StringBuilder();
        astray = false;
        int purse = draw(3) == 0 ? 10000000 : draw(3) == 0 ? 30000 : 1500000;
        int growers = 1 + draw(8);
        for (int i = 0; i < growers; i++) {
            same("addGrower()", () -> sale.addGrower(), () -> model.addGrower());
        }
        int buyers = draw(8) == 0 ? draw(7) : 2 + draw(4);
        for (int i = 0; i < buyers; i++) {
            addBuyer(draw(purse + 1), draw(3000));
            teach(i);
        }
        while (!astray && lengthOfRun() < 450) {
            call(draw(41), purse);
            if (draw(8) == 0) {
                tellAll();
            }
        }
        tellAll();
    }

    private static int lengthOfRun() {
        return (int) calls.chars().filter(c -> c == '\n').count();
    }

    private static void call(int which, int purse) {
        if (which < 8) {
            bring(oneOf(0), mostly(14 + draw(27)), mostly(30 + draw(91)), mostly(40 + draw(41)),
                    mostly(50 + draw(151)));
        } else if (which < 10) {
            pool(mostly(draw(11)), mostly(draw(61)), mostly(1 + draw(12)));
        } else if (which < 11) {
            addBuyer(mostly(draw(purse + 1)), mostly(draw(100001)));
        } else if (which < 13) {
            teach(oneOf(5));
        } else if (which < 16) {
            join(oneOf(5), mostly(draw(3) == 0 ? draw(4) - 1 : 0));
        } else if (which < 19) {
            sell(oneOf(3), mostly(draw(4)), reserve(), mostly(1 + draw(100)));
        } else if (which < 20 && draw(4) == 0) {
            session(mostly(draw(4)), reserve(), mostly(1 + draw(100)));
        } else if (which < 26) {
            trySales(oneOf(3), mostly(draw(4)), reserve(), mostly(1 + draw(100)));
        } else {
            told(which, mostly(draw(11)));
        }
    }

    private static void told(int which, int what) {
        int bale = oneOf(1);
        int lot = oneOf(3);
        int buyer = oneOf(5);
        int grower = oneOf(0);
        int few = mostly(draw(4));
        switch (which) {
            case 26 -> same("addGrower()", () -> sale.addGrower(), () -> model.addGrower());
            case 27 -> same(text("trim", what), () -> sale.trim(what), () -> model.trim(what));
            case 28 -> same(text("feed", few, bale, what, -few, 7), () -> sale.feed(few, bale, what, -few, 7),
                    () -> model.feed(few, bale, what, -few, 7));
            case 29 -> same(text("bale", bale, few), () -> sale.bale(bale, few), () -> model.bale(bale, few));
            case 30 -> same(text("bale", bale, what), () -> sale.bale(bale, what), () -> model.bale(bale, what));
            case 31 -> same(text("lot", lot, what), () -> sale.lot(lot, what), () -> model.lot(lot, what));
            case 32 -> same(text("buyer", buyer, what), () -> sale.buyer(buyer, what), () -> model.buyer(buyer, what));
            case 33, 34, 35 -> same(text("limit", buyer, lot), () -> sale.limit(buyer, lot),
                    () -> model.limit(buyer, lot));
            case 36 -> same(text("grower", grower, few), () -> sale.grower(grower, few),
                    () -> model.grower(grower, few));
            case 37 -> same(text("ring", few, what / 2), () -> sale.ring(few, what / 2), () -> model.ring(few, what / 2));
            case 38 -> same(text("index", what + 3), () -> sale.index(what + 3), () -> model.index(what + 3));
            case 39 -> same("list()", () -> sale.list(), () -> model.list());
            default -> same(text("byteAt", bale * 5), () -> sale.byteAt(bale * 5), () -> model.byteAt(bale * 5));
        }
    }

    private static void tellAll() {
        same("digest()", () -> sale.digest(), () -> model.digest());
        same("errorAt()", () -> sale.errorAt(), () -> model.errorAt());
        same("mean()", () -> sale.mean(), () -> model.mean());
    }

    private static void bring(int grower, int micron, int length, int part, int weight) {
        same(text("bring", grower, micron, length, part, weight),
                () -> sale.bring(grower, micron, length, part, weight),
                () -> model.bring(grower, micron, length, part, weight));
    }

    private static void pool(int microns, int lengths, int most) {
        same(text("pool", microns, lengths, most), () -> sale.pool(microns, lengths, most),
                () -> model.pool(microns, lengths, most));
    }

    private static void addBuyer(int purse, int need) {
        same(text("addBuyer", purse, need), () -> sale.addBuyer(purse, need), () -> model.addBuyer(purse, need));
    }

    private static void join(int buyer, int ring) {
        same(text("join", buyer, ring), () -> sale.join(buyer, ring), () -> model.join(buyer, ring));
    }

    private static void sell(int lot, int kind, int reserve, int step) {
        same(text("sell", lot, kind, reserve, step), () -> sale.sell(lot, kind, reserve, step),
                () -> model.sell(lot, kind, reserve, step));
    }

    private static void session(int kind, int reserve, int step) {
        same(text("session", kind, reserve, step), () -> sale.session(kind, reserve, step),
                () -> model.session(kind, reserve, step));
    }

    private static void trySales(int lot, int kind, int reserve, int step) {
        for (int i = 0; i < 3; i++) {
            int what = mostly(i);
            same(text("would", lot, kind, reserve, step, what), () -> sale.would(lot, kind, reserve, step, what),
                    () -> model.would(lot, kind, reserve, step, what));
        }
        if (draw(3) == 0) {
            same(text("bestReserve", lot, kind, step), () -> sale.bestReserve(lot, kind, step),
                    () -> model.bestReserve(lot, kind, step));
        }
        if (draw(4) == 0) {
            same(text("bestKind", reserve, step), () -> sale.bestKind(reserve, step),
                    () -> model.bestKind(reserve, step));
        }
    }

    private static void teach(int buyer) {
        String text = draw(3) == 0 ? spoilt(program()) : program();
        if (text.length() > 1000) {
            return;
        }
        same("trim(0)", () -> sale.trim(0), () -> model.trim(0));
        StringBuilder padded = new StringBuilder(text);
        padded.append(" ".repeat((20 - text.length() % 20) % 20));
        for (int i = 0; i < padded.length(); i += 20) {
            int[] words = new int[5];
            for (int j = 0; j < 20; j++) {
                words[j / 4] = words[j / 4] << 8 | padded.charAt(i + j) & 255;
            }
            same(text("feed", words), () -> sale.feed(words[0], words[1], words[2], words[3], words[4]),
                    () -> model.feed(words));
        }
        same(text("trim", text.length()), () -> sale.trim(text.length()), () -> model.trim(text.length()));
        same(text("teach", buyer), () -> sale.teach(buyer), () -> model.teach(buyer));
        same("errorAt()", () -> sale.errorAt(), () -> model.errorAt());
    }

    private static void same(String call, Supplier<Object> made, Supplier<Object> due) {
        if (astray) {
            return;
        }
        String answer = answer(made);
        String dueAnswer = answer(due);
        astray = !answer.equals(dueAnswer);
        check.same(astray ? calls + call : call, answer, dueAnswer);
        calls.append(call).append('\n');
    }

    private static String answer(Supplier<Object> made) {
        try {
            return made.get().toString();
        } catch (RuntimeException e) {
            // By the very class: a subclass would be one that the machine threw.
            return e.getClass().getName();
        }
    }

    private static String text(String name, int... arguments) {
        StringBuilder text = new StringBuilder(name);
        for (int i = 0; i < arguments.length; i++) {
            text.append(i == 0 ? '(' : ',').append(arguments[i]);
        }
        return text.append(')').toString();
    }

    private static int reserve() {
        return mostly(draw(3) == 0 ? draw(5001) : draw(3) == 0 ? 0 : draw(200));
    }

    /** Mostly one of those that there are: of what count() tells. */
    private static int oneOf(int what) {
        return mostly(draw(model.count(what) + draw(20) / 19 + (model.count(what) == 0 ? 1 : 0)));
    }

    private static int mostly(int value) {
        int kind = draw(100);
        return kind == 0 ? FACES[draw(FACES.length)] : kind == 1 ? value + draw(41) - 20 : value;
    }

    // ---- programs

    private static String program() {
        StringBuilder text = new StringBuilder();
        int lets = draw(6) == 0 ? 6 + draw(4) : draw(4);
        for (letsTold = 0; letsTold < lets; letsTold++) {
            String name = draw(40) == 0 ? "need" : draw(40) == 0 ? "v0" : "v" + letsTold;
            text.append("let ").append(name).append(" = ").append(sum(draw(4))).append(';').append(blank());
        }
        for (int decisions = draw(4); decisions > 0; decisions--) {
            text.append("when ").append(test(draw(3))).append(draw(3) == 0 ? " pass" : " bid " + price());
            text.append(';').append(blank());
        }
        return draw(6) == 0 ? text.toString() : text.append("bid ").append(price()).append(";").toString();
    }

    private static String price() {
        switch (draw(4)) {
            case 0: return sum(draw(4));
            case 1: return "" + draw(400);
            case 2: return "min(" + draw(12000) + ", purse/clean - " + draw(30) + ")";
            default: return sum(1) + " / " + (1 + draw(50)) + " + " + draw(300);
        }
    }

    private static String blank() {
        return draw(3) == 0 ? "\n" : draw(3) == 0 ? "  " : "";
    }

    private static String test(int depth) {
        switch (depth <= 0 ? 0 : draw(5)) {
            case 0:
            case 1: return sum(depth - 1) + new String[] {"<", ">", "=", "<=", " >= "}[draw(5)] + sum(depth - 1);
            case 2: return "not " + test(depth - 1);
            case 3: return "[" + test(depth - 1) + "]";
            default: return test(depth - 1) + (draw(2) == 0 ? " and " : " or ") + test(depth - 1);
        }
    }

    private static String sum(int depth) {
        if (depth <= 0) {
            return leaf();
        }
        switch (draw(7)) {
            case 0: return "-" + sum(depth - 1);
            case 1: return "(" + sum(depth - 1) + ")";
            case 2: return "min( " + sum(depth - 1) + "," + sum(depth - 1) + ")";
            case 3: return "max(" + sum(depth - 1) + "," + sum(depth - 1) + blank() + ")";
            default: return sum(depth - 1) + blank() + "+-*/".charAt(draw(4)) + sum(depth - 1);
        }
    }

    private static String leaf() {
        int kind = draw(60);
        if (kind == 0) {
            // The name of this let itself, which is told only behind its ;
            return "v" + letsTold;
        }
        if (kind < 20 && letsTold > 0) {
            return "v" + draw(letsTold);
        }
        return kind < 40 ? ModelProgram.GIVEN.get(draw(13)) : "" + draw(kind < 45 ? 100000 : 40);
    }

    /** A program with something put in, taken out, or repeated till it is too deep or too long. */
    private static String spoilt(String program) {
        StringBuilder text = new StringBuilder(program);
        for (int i = draw(3); i >= 0; i--) {
            int place = draw(text.length() + 1);
            int kind = draw(6);
            if (kind < 3) {
                text.insert(place, PIECES[draw(PIECES.length)]);
            } else if (kind < 4 && place < text.length()) {
                text.deleteCharAt(place);
            } else if (kind < 5) {
                text.insert(place, new String[] {"-", "not ", "[", "(", "min(", "pass;", "+1"}[draw(7)].repeat(draw(130)));
            } else {
                text.setLength(place);
            }
        }
        return text.toString();
    }

    private static int draw(int bound) {
        seed = seed * 6364136223846793005L + 1442695040888963407L;
        return (int) ((seed >>> 33) % bound);
    }
}
