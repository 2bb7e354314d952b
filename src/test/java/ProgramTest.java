/** Promises 8 to 11 and 13: the tape, programs, their errors, and the limits that they tell. */
public final class ProgramTest {
    private static final Check check = new Check("ProgramTest");

    public static void main(String[] args) {
        tape();
        trimming();
        teaching();
        wrongTokens();
        depth();
        manyTokens();
        wrongNames();
        bytes();
        values();
        tests();
        decisions();
        givenNames();
        givenNamesAfterSales();
        limitsRefused();
        check.finish();
    }

    private static void tape() {
        WoolSale sale = new WoolSale();
        for (int i = 1; i <= 50; i++) {
            check.same("feed", sale.feed(0x20202020, 0x20202020, 0x20202020, 0x20202020, 0x20202020), 20 * i);
        }
        check.state("1020 bytes", () -> sale.feed(0, 0, 0, 0, 0));
        check.same("tape", sale.count(6), 1000);
        sale.trim(981);
        check.state("1001 bytes", () -> sale.feed(0, 0, 0, 0, 0));
        sale.trim(980);
        check.same("1000 bytes", sale.feed(0, 0, 0, 0, 0), 1000);
        sale.addBuyer(0, 0);
        check.same("a byte 0", sale.teach(0), 1);
        check.same("its place", sale.errorAt(), 980);
        check.same("tape behind teach", sale.count(6), 0);
    }

    private static void trimming() {
        WoolSale sale = new WoolSale();
        sale.addBuyer(0, 0);
        check.same("trim(0) of nothing", sale.trim(0), 0);
        Check.write(sale, "bid 1;bid;");
        check.argument("trim(-1)", () -> sale.trim(-1));
        check.argument("trim(11)", () -> sale.trim(11));
        check.same("tape", sale.count(6), 10);
        check.same("trim(10)", sale.trim(10), 10);
        check.same("trim(6)", sale.trim(6), 6);
        check.same("tape", sale.count(6), 6);
        check.same("teach", sale.teach(0), 0);
        check.same("parts", sale.buyer(0, 8), 1);
    }

    private static void teaching() {
        WoolSale sale = Check.saleOf(1);
        check.index("no buyer", () -> sale.teach(0));
        sale.addBuyer(100000, 0);
        Check.write(sale, "bid 5;");
        check.index("buyer 1", () -> sale.teach(1));
        check.index("buyer -1", () -> sale.teach(-1));
        check.same("the tape stays", sale.count(6), 6);
        check.same("without a program", sale.buyer(0, 8), -1);
        check.same("errorAt ahead", sale.errorAt(), -1);
        check.same("teach", sale.teach(0), 0);
        check.same("tape", sale.count(6), 0);
        check.same("limit", sale.limit(0, 0), 5);
        check.same("an error", Check.teach(sale, 0, "let a=1;bid 7"), 1);
        check.same("its place", sale.errorAt(), 13);
        check.same("tape behind an error", sale.count(6), 0);
        check.same("the program stays", sale.limit(0, 0), 5);
        check.same("its parts stay", sale.buyer(0, 8), 1);
        check.same("another", Check.teach(sale, 0, "let a=1;let b=a+5;when a<b bid b;pass;"), 0);
        check.same("errorAt without one", sale.errorAt(), -1);
        check.same("limit", sale.limit(0, 0), 6);
        check.same("parts", sale.buyer(0, 8), 4);
        check.same("an empty tape", sale.teach(0), 0);
        check.same("no parts", sale.buyer(0, 8), 0);
        check.same("no limit", sale.limit(0, 0), -1);
        check.same("blanks", Check.teach(sale, 0, " \n  \n"), 0);
        sale.addBuyer(100000, 0);
        Check.teach(sale, 1, "bid 8;");
        Check.teach(sale, 0, "bid 9;");
        check.same("each has one's own", sale.limit(1, 0), 8);
        check.same("each has one's own", sale.limit(0, 0), 9);
        teachingAgain(sale);
    }

    /** Nothing of an earlier program or of its error is left. */
    private static void teachingAgain(WoolSale sale) {
        check.same("an error of a name", Check.teach(sale, 0, "let need=1;bid nix;"), 2);
        check.same("its place", sale.errorAt(), 4);
        check.same("none", Check.teach(sale, 0, "pass;"), 0);
        check.same("errorAt without one", sale.errorAt(), -1);
        check.same("no limit", sale.limit(0, 0), -1);
        for (int bid = 1; bid <= 3; bid++) {
            check.same("again", Check.teach(sale, 0, "let a=" + bid + ";bid a;"), 0);
            check.same("limit", sale.limit(0, 0), bid);
            check.same("parts", sale.buyer(0, 8), 2);
        }
        check.same("names are forgotten", Check.teach(sale, 0, "bid a;"), 3);
    }

    private static void error(String text, int error, int place) {
        WoolSale sale = new WoolSale();
        sale.addBuyer(0, 0);
        check.same("error of " + text, Check.teach(sale, 0, text), error);
        check.same("place of the error of " + text, sale.errorAt(), place);
        check.same("program of " + text, sale.buyer(0, 8) >= 0 ? 0 : 1, error == 0 ? 0 : 1);
    }

    private static void right(String text) {
        error(text, 0, -1);
    }

    private static void wrongTokens() {
        error("bid 1", 1, 5);
        error("bid 1  ", 1, 7);
        error("bid", 1, 3);
        error("bid;", 1, 3);
        error(";", 1, 0);
        error("bid 1;;", 1, 6);
        error("5", 1, 0);
        error("let 5=1;", 1, 4);
        error("let bid=1;", 1, 4);
        error("let a 1;", 1, 6);
        error("let a<=1;", 1, 5);
        error("let a=;", 1, 6);
        error("let a=1<2;", 1, 7);
        error("when pass;", 1, 5);
        error("when 1<2;", 1, 8);
        error("when 1<2 let a=1;", 1, 9);
        error("when 1 bid 1;", 1, 7);
        error("when (1<2) bid 1;", 1, 7);
        error("when 1 2 pass;", 1, 7);
        error("bid min;", 1, 7);
        error("bid max,1;", 1, 7);
        error("when [1] bid 1;", 1, 7);
        error("when 1<2<3 bid 1;", 1, 8);
        error("when 1=<2 bid 1;", 1, 7);
        error("when 1< =2 bid 1;", 1, 8);
        error("when 1<2 and pass;", 1, 13);
        error("when not pass;", 1, 9);
        error("when [1<2 pass;", 1, 10);
        error("bid [1];", 1, 4);
        error("bid not 1;", 1, 4);
        error("bid +1;", 1, 4);
        error("bid 1+;", 1, 6);
        error("bid 1*/2;", 1, 6);
        error("bid (1;", 1, 6);
        error("bid 1);", 1, 5);
        error("bid min 1;", 1, 8);
        error("bid min(1);", 1, 9);
        error("bid min(1,2,3);", 1, 11);
        error("bid max(1,2;", 1, 11);
        error("bid 1 2;", 1, 6);
        error("bid 1a;", 1, 5);
        error("bids 1;", 1, 0);
        error("bid1;", 1, 0);
        error("pass 1;", 1, 5);
        error("pass;A", 1, 5);
        error("pass;_", 1, 5);
        error("pass;\t", 1, 5);
        error("bid 12345;", 0, -1);
        error("bid 123456;", 1, 4);
        error("bid 1+000001;", 1, 6);
        right("let abcdefghij=1;");
        error("let abcdefghijk=1;", 1, 4);
        right("let a234567890=1;");
        error("let a2345678901=1;", 1, 4);
        error("pass;123456", 1, 5);
        right("\n let\na =1 ;bid a;\n");
        right("when 1<=2 and 1>=2 or not[1=1]bid-1--1;");
        right("when 1 <= 2 pass;");
    }

    private static void depth() {
        right("bid " + "(".repeat(8) + "1" + ")".repeat(8) + ";");
        error("bid " + "(".repeat(9) + "1" + ")".repeat(9) + ";", 1, 12);
        right("bid " + "-".repeat(8) + "1;");
        error("bid " + "-".repeat(9) + "1;", 1, 12);
        right("bid 1" + "-1".repeat(9) + ";");
        right("bid 0" + "-(1)".repeat(9) + ";");
        right("bid " + "-(".repeat(4) + "1" + ")".repeat(4) + ";");
        error("bid " + "-(".repeat(4) + "-1" + ")".repeat(4) + ";", 1, 12);
        error("bid -" + "(".repeat(8) + "1" + ")".repeat(8) + ";", 1, 12);
        right("bid " + "min(1,".repeat(8) + "1" + ")".repeat(8) + ";");
        error("bid " + "min(1,".repeat(8) + "max(1,1)" + ")".repeat(8) + ";", 1, 55);
        right("bid " + "min(".repeat(8) + "1" + ",1)".repeat(8) + ";");
        error("bid " + "min(".repeat(9) + "1" + ",1)".repeat(9) + ";", 1, 39);
        right("let a=" + "(".repeat(8) + "1" + ")".repeat(8) + ";");
        error("let a=" + "(".repeat(9) + "1" + ")".repeat(9) + ";", 1, 14);
        right("when " + "[".repeat(8) + "1<2" + "]".repeat(8) + "pass;");
        error("when " + "[".repeat(9) + "1<2" + "]".repeat(9) + "pass;", 1, 13);
        right("when " + "not ".repeat(8) + "1<2 pass;");
        error("when " + "not ".repeat(9) + "1<2 pass;", 1, 37);
        error("when " + "not ".repeat(8) + "(1)<2 pass;", 1, 37);
        error("when " + "not ".repeat(8) + "1<-2 pass;", 1, 39);
        right("when " + "not ".repeat(8) + "1<2 or " + "[".repeat(8) + "1<2" + "]".repeat(8) + "pass;");
        right("when 1<2 and [[[[not not not (1)<-2]]]] pass;");
    }

    private static void manyTokens() {
        right("pass;".repeat(125));
        error("pass;".repeat(125) + "\n ?", 1, 627);
        error("pass;".repeat(125) + "pass;", 1, 625);
        right("pass;".repeat(125) + "   ");
        right("bid 1" + "+1".repeat(122) + ";bid 1;");
        error("bid 1" + "+1".repeat(123) + ";pass;", 1, 256);
        error("bid 1" + "+1".repeat(123) + ";bid 1;", 1, 256);
        error("bid 1" + "+1".repeat(124), 1, 253);
        error("bid 1" + "+1".repeat(124) + "+;", 1, 253);
        error("bid b;".repeat(83) + "\n", 3, 4);
        error("bid b;".repeat(84), 1, 502);
    }

    private static void wrongNames() {
        error("let clean=1;", 2, 4);
        error("let turn=1;", 2, 4);
        error("let micron=1;", 2, 4);
        error("let a=1;let a=2;", 2, 12);
        error("bid b;", 3, 4);
        error("let a=a;", 3, 6);
        error("let a=b;let b=1;", 3, 6);
        error("bid a;let a=1;", 3, 4);
        error("when 1<c pass;", 3, 7);
        error("let a=b;let a=1;", 3, 6);
        error("let a=1;let a=b;", 2, 12);
        error("bid 1+(2*nix);bid", 1, 17);
        error("let micron=1;bid 1;;", 1, 19);
        right("let a=1;let b=a;bid a+b;");
        right("let a=1;let aa=2;let az=3;let a0=4;let a9=5;let b=6;let za=7;let z9=8;");
        error("let a9=1;let a8=2;bid az;", 3, 22);
        error("let abcdefghi0=1;let abcdefghij=2;bid abcdefghik;", 3, 38);
        right("let a1=1;let a=2;let a12=3;let mic=4;let microns=5;");
        String eight = "let a=1;let b=1;let c=1;let d=1;let e=1;let f=1;let g=1;let h=1;";
        right(eight + "bid a+h;");
        error(eight + "let i=1;", 4, 68);
        error(eight + "let i=z;", 4, 68);
        error(eight + "let need=1;", 2, 68);
        error(eight + "let h=1;", 2, 68);
        error(eight + "bid z;let i=1;", 3, 68);
        error(eight + "bid 1;let i=1;let j=i;", 4, 74);
        error(eight + "let i=1;bid", 1, 75);
    }

    private static void bytes() {
        WoolSale sale = Check.saleOf(1);
        sale.addBuyer(100000, 0);
        // "bid 300-1+5;", and the bytes 255 and 128 behind it
        sale.feed(0x62696420, 0x3330302d, 0x312b353b, 0xff800a20, 0);
        sale.trim(14);
        check.same("a byte 255", sale.teach(0), 1);
        check.same("its place", sale.errorAt(), 12);
        sale.feed(0x62696420, 0x3330302d, 0x312b353b, 0x0a20800a, -1);
        sale.trim(15);
        check.same("a byte 128", sale.teach(0), 1);
        check.same("its place", sale.errorAt(), 14);
        sale.feed(0x62696420, 0x3330302d, 0x312b353b, 0x0a200a20, 0x20202020);
        check.same("no such byte", sale.teach(0), 0);
        check.same("limit", sale.limit(0, 0), 304);
    }

    private static void limit(String text, int due) {
        WoolSale sale = Check.saleOf(1);
        sale.addBuyer(10000000, 0);
        check.same("error of " + text, Check.teach(sale, 0, text), 0);
        check.same("limit by " + text, sale.limit(0, 0), due);
    }

    private static void values() {
        limit("bid 7-2*3;", 1);
        limit("bid (7-2)*3;", 15);
        limit("bid 20-5-3;", 12);
        limit("bid 100/7/2;", 7);
        limit("bid 100/(7/2);", 33);
        limit("bid 7/0;", 0);
        limit("bid 5+7/(3-3);", 5);
        limit("bid -7/2+10;", 7);
        limit("bid 7/-2+10;", 7);
        limit("bid --7;", 7);
        limit("bid 10--7;", 17);
        limit("bid -2*-3;", 6);
        limit("bid min(3,4)*10+max(5,6);", 36);
        limit("bid min(4,3)*10+max(6,5);", 36);
        limit("bid max(-5,-6)+9;", 4);
        limit("bid 0-1;", 0);
        limit("bid 9999;", 9999);
        limit("bid 10000;", 9999);
        limit("bid 65536*32768;", 0);
        limit("bid 65536*32768-1;", 9999);
        limit("bid 65536*65536+3;", 3);
        limit("bid -(65536*32768);", 0);
        limit("bid 65536*32768/-1-1;", 9999);
        limit("let a=4;let b=a*a;bid b-a;", 12);
        limit("let a=99999*99999;bid a/50000/10;", 2819);
        WoolSale sale = Check.saleOf(1);
        sale.addBuyer(659, 0);
        Check.teach(sale, 0, "bid 50;");
        check.same("at most purse / clean", sale.limit(0, 0), 10);
    }

    private static void holds(String test, boolean due) {
        limit("when " + test + " bid 5;bid 6;", due ? 5 : 6);
    }

    private static void tests() {
        holds("1<2", true);
        holds("2<2", false);
        holds("2>1", true);
        holds("2>2", false);
        holds("2=2", true);
        holds("2=1", false);
        holds("2<=2", true);
        holds("3<=2", false);
        holds("2>=2", true);
        holds("2>=3", false);
        holds("-1<0", true);
        holds("65536*32768<0", true);
        holds("1+1=4-2", true);
        holds("not 1<2", false);
        holds("not not 1<2", true);
        holds("1<=2", true);
        holds("3>=2", true);
        holds("1<2 and 2<1", false);
        holds("2<1 and 1<2", false);
        holds("1<2 and 2>1 and 1<=2 and 2>=1 and 1=1 and not 2<1", true);
        holds("2<1 or 2<1", false);
        holds("2<1 or 1<2", true);
        holds("1<2 or 2<1", true);
        holds("1<2 or 1<2 and 2<1", true);
        holds("2<1 and 1<2 or 1<2", true);
        holds("[1<2 or 1<2] and 2<1", false);
        holds("not 1<2 or 1<2", true);
        holds("not [1<2 or 1<2]", false);
        holds("not 2<1 and 2<1", false);
        holds("not [2<1 and 2<1]", true);
        holds("1/0=0 and 1<2", true);
    }

    private static void decisions() {
        limit("", -1);
        limit("let a=5;", -1);
        limit("pass;bid 5;", -1);
        limit("when 2<1 pass;bid 5;", 5);
        limit("when 1<2 pass;bid 5;", -1);
        limit("bid 5;bid 6;", 5);
        limit("when 2<1 bid 5;", -1);
        limit("when 2<1 bid 5;when 1<2 bid 6;bid 7;", 6);
        limit("when 2<1 bid 5;let a=3;bid a;let b=4;", 3);
        limit("bid 0;", 0);
    }

    private static void given(WoolSale sale, int buyer, int lot, String name, int due) {
        Check.teach(sale, buyer, "bid " + name + ";");
        check.same(name, sale.limit(buyer, lot), due);
    }

    private static void givenNames() {
        WoolSale sale = new WoolSale();
        sale.addGrower();
        sale.bring(0, 14, 30, 40, 50);
        sale.bring(0, 18, 80, 60, 100);
        sale.bring(0, 19, 90, 55, 130);
        sale.pool(1, 10, 2);
        sale.addBuyer(9000000, 345);
        sale.addBuyer(9000000, 346);
        sale.addBuyer(9000000, 347);
        sale.addBuyer(9000000, 348);
        check.same("no program", sale.limit(1, 1), -1);
        given(sale, 1, 1, "micron", 18);
        given(sale, 1, 1, "length", 85);
        given(sale, 1, 1, "yield", 56);
        given(sale, 1, 1, "weight", 230);
        given(sale, 1, 1, "clean", 131);
        given(sale, 1, 1, "bales", 2);
        given(sale, 1, 1, "class", 6);
        given(sale, 1, 1, "index", 0);
        given(sale, 1, 1, "need", 346);
        given(sale, 1, 1, "purse/1000", 9000);
        given(sale, 1, 1, "bought", 0);
        given(sale, 1, 1, "rivals", 0);
        given(sale, 1, 1, "turn", 1);
        given(sale, 1, 0, "turn", 0);
        given(sale, 0, 1, "rivals", 1);
        given(sale, 1, 1, "rivals", 1);
        Check.teach(sale, 3, "");
        check.same("a program without parts is one, too", sale.limit(1, 1), 2);
    }

    private static void givenNamesAfterSales() {
        WoolSale sale = Check.saleOf(3, 100, 40);
        Check.teach(sale, 0, "when bought<60 bid 100;when index=100 bid need/1000;bid 3;");
        check.same("sell", sale.sell(1, 2, 0, 1), 100);
        check.same("need and index", sale.limit(0, 0), 99);
        check.same("of a lot that is sold", sale.limit(0, 1), 99);
        check.same("sell", sale.sell(0, 2, 0, 1), 99);
        check.same("the index moves", sale.limit(0, 2), 3);
        given(sale, 0, 2, "bought", 120);
        given(sale, 0, 2, "index", 99);
        given(sale, 0, 2, "(purse-99800*100)/10", 806);
    }

    private static void limitsRefused() {
        WoolSale sale = Check.saleOf(1, 5);
        check.index("buyer -1", () -> sale.limit(-1, 0));
        check.index("buyer 1", () -> sale.limit(1, 0));
        check.index("lot -1", () -> sale.limit(0, -1));
        check.index("lot 1", () -> sale.limit(0, 1));
    }
}
