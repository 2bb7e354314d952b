/** What the tests share: calls and the answers that are due, and programs given as texts. */
final class Check {
    interface Call {
        long answer();
    }

    private final String test;
    private int calls;
    private int wrong;

    Check(String test) {
        this.test = test;
    }

    void same(String call, long got, long due) {
        calls++;
        if (got != due) {
            tell(call + " answered " + got + ", due is " + due);
        }
    }

    void same(String call, double got, double due) {
        calls++;
        if (got != due) {
            tell(call + " answered " + got + ", due is " + due);
        }
    }

    void same(String call, String got, String due) {
        calls++;
        if (!got.equals(due)) {
            tell(call + " answered\n" + got + "\ndue is\n" + due);
        }
    }

    void index(String call, Call made) {
        refused(call, made, IndexOutOfBoundsException.class);
    }

    void argument(String call, Call made) {
        refused(call, made, IllegalArgumentException.class);
    }

    void state(String call, Call made) {
        refused(call, made, IllegalStateException.class);
    }

    private void refused(String call, Call made, Class<?> due) {
        calls++;
        try {
            tell(call + " answered " + made.answer() + ", due is " + due.getSimpleName());
        } catch (RuntimeException e) {
            if (e.getClass() != due) {
                tell(call + " threw " + e + ", due is " + due.getSimpleName());
            }
        }
    }

    private void tell(String fault) {
        wrong++;
        System.out.println(test + ": " + fault);
    }

    void finish() {
        System.out.println(test + ": " + calls + " calls, " + wrong + " not as due");
        if (wrong > 0) {
            System.exit(1);
        }
    }

    /** Fills the tape with just this text, whatever was there. */
    static void write(WoolSale sale, String text) {
        sale.trim(0);
        StringBuilder padded = new StringBuilder(text);
        while (padded.length() % 20 != 0) {
            padded.append(' ');
        }
        for (int i = 0; i < padded.length(); i += 20) {
            sale.feed(word(padded, i), word(padded, i + 4), word(padded, i + 8), word(padded, i + 12),
                    word(padded, i + 16));
        }
        sale.trim(text.length());
    }

    private static int word(CharSequence text, int from) {
        int word = 0;
        for (int i = 0; i < 4; i++) {
            word = word << 8 | text.charAt(from + i) & 255;
        }
        return word;
    }

    static int teach(WoolSale sale, int buyer, String text) {
        write(sale, text);
        return sale.teach(buyer);
    }

    static String paper(WoolSale sale) {
        int length = sale.list();
        StringBuilder text = new StringBuilder();
        for (int i = 0; i < length; i++) {
            text.append((char) sale.byteAt(i));
        }
        return text.toString();
    }

    /** A sale of lots of one bale each, of one grower; each has the clean weight 60. */
    static WoolSale saleOf(int lots) {
        WoolSale sale = new WoolSale();
        sale.addGrower();
        for (int i = 0; i < lots; i++) {
            sale.bring(0, 20, 70, 60, 100);
        }
        sale.pool(0, 0, 1);
        return sale;
    }

    /** A sale of such lots, and of one buyer for each limit; a buyer with the limit -1 has no program. */
    static WoolSale saleOf(int lots, int... limits) {
        WoolSale sale = saleOf(lots);
        for (int limit : limits) {
            int buyer = sale.addBuyer(10000000, 100000);
            if (limit >= 0) {
                teach(sale, buyer, "bid " + limit + ";");
            }
        }
        return sale;
    }
}
