/** Promises 8 to 11 and 13 and chapter 2 of the terms at their edges: the tape, tokens, depth, names and values. */
public final class ProgramEdgeTest {
    private static final Check check = new Check("ProgramEdgeTest");
    private static final String MAX = "(65536*32767+65535)";
    private static final String MIN = "(65536*32768)";

    public static void main(String[] args) {
        bytesOfFeed();
        fullTape();
        trimmed();
        emptyTape();
        everyByteAsAToken();
        everyByteInAWord();
        everyByteInANumber();
        everyByteInASymbol();
        longWords();
        longNumbers();
        tokensWithoutBlanks();
        longestTokens();
        endOfTheTape();
        keywordsAndNames();
        allNamesDiffer();
        depthOfEach();
        depthGoesBack();
        tokens();
        lets();
        orderOfErrors();
        errorsOfNames();
        errorAt();
        sumsWrapAround();
        productsWrapAround();
        divisionBy0();
        divisionIsCut();
        comparisonsOfFarNumbers();
        limits();
        purses();
        noLimit();
        parts();
        givenNamesAtTheirEnds();
        check.finish();
    }

    private static void error(String text, int error, int place) {
        WoolSale sale = new WoolSale();
        sale.addBuyer(0, 0);
        check.same("error of " + text, Check.teach(sale, 0, text), error);
        check.same("place of the error of " + text, sale.errorAt(), place);
        check.same("has a program, by " + text, sale.buyer(0, 8) >= 0 ? 1 : 0, error == 0 ? 1 : 0);
        check.same("tape behind " + text, sale.count(6), 0);
    }

    private static void right(String text) {
        error(text, 0, -1);
    }

    private static void limit(String text, int due) {
        WoolSale sale = Check.saleOf(1);
        sale.addBuyer(10000000, 0);
        check.same("error of " + text, Check.teach(sale, 0, text), 0);
        check.same("limit by " + text, sale.limit(0, 0), due);
    }

    private static void bytesOfFeed() {
        WoolSale sale = Check.saleOf(1);
        sale.addBuyer(10000000, 0);
        // "bid " "1234" ";bid" " 567" "8;  "
        check.same("feed", sale.feed(0x62696420, 0x31323334, 0x3b626964, 0x20353637, 0x383b2020), 20);
        check.same("trim", sale.trim(19), 19);
        check.same("teach", sale.teach(0), 0);
        check.same("parts", sale.buyer(0, 8), 2);
        check.same("the highest byte comes first", sale.limit(0, 0), 1234);
        sale.feed(0x70617373, 0x3b202020, 0x20202020, 0x20202020, 0x20202080);
        check.same("the lowest byte comes last", sale.teach(0), 1);
        check.same("its place", sale.errorAt(), 19);
        sale.feed(0x80202020, 0, 0, 0, 0);
        check.same("a byte 128 at the beginning", sale.teach(0), 1);
        check.same("its place", sale.errorAt(), 0);
        sale.feed(-1, -1, -1, -1, -1);
        check.same("bytes 255", sale.teach(0), 1);
        check.same("their place", sale.errorAt(), 0);
    }

    private static void fullTape() {
        right("pass;" + " ".repeat(995));
        error("pass;" + " ".repeat(994) + "?", 1, 999);
        error("pass" + " ".repeat(996), 1, 1000);
        right(" ".repeat(995) + "pass;");
        error(" ".repeat(996) + "pass", 1, 1000);
        error(" ".repeat(996) + "pas;", 1, 996);
        error(" ".repeat(989) + "abcdefghijk", 1, 989);
        error(" ".repeat(990) + "abcdefghij", 1, 990);
        error("bid" + " ".repeat(992) + "12345", 1, 1000);
        error("bid" + " ".repeat(991) + "123456", 1, 994);
        right("bid" + "\n".repeat(995) + "1;");
    }

    private static void trimmed() {
        WoolSale sale = new WoolSale();
        sale.addBuyer(0, 0);
        Check.write(sale, "bid 12;bid 3;");
        check.same("trim to all", sale.trim(13), 13);
        check.same("trim by one", sale.trim(12), 12);
        check.same("what was cut is gone", sale.teach(0), 1);
        check.same("the end of the tape", sale.errorAt(), 12);
        Check.write(sale, "bid 12;");
        check.same("trim to one", sale.trim(1), 1);
        check.same("bytes", sale.count(6), 1);
        check.same("trim to none", sale.trim(0), 0);
        check.same("bytes", sale.count(6), 0);
        check.same("trim of none", sale.trim(0), 0);
        check.same("feed goes on at the cut", sale.feed(0x70617373, 0x3b3b2020, 0, 0, 0), 20);
        check.same("trim", sale.trim(4), 4);
        check.same("feed goes on at the cut", sale.feed(0x3b706173, 0x733b2020, 0x20202020, 0x20202020, 0x20202020), 24);
        check.same("teach", sale.teach(0), 0);
        check.same("two parts", sale.buyer(0, 8), 2);
        for (int i = 0; i < 50; i++) {
            sale.feed(0x70617373, 0x3b202020, 0x20202020, 0x20202020, 0x20202020);
        }
        check.same("trim of a full tape to all", sale.trim(1000), 1000);
        check.same("trim of a full tape", sale.trim(999), 999);
        check.same("teach", sale.teach(0), 0);
        check.same("fifty parts", sale.buyer(0, 8), 50);
    }

    private static void emptyTape() {
        right("");
        right(" ");
        right("\n");
        right(" \n \n");
        WoolSale sale = Check.saleOf(1, 5);
        check.same("an empty tape is a program", sale.teach(0), 0);
        check.same("without parts", sale.buyer(0, 8), 0);
        check.same("and without a limit", sale.limit(0, 0), -1);
    }

    private static boolean isBlank(int sign) {
        return sign == 32 || sign == 10;
    }

    private static boolean isDigit(int sign) {
        return sign >= '0' && sign <= '9';
    }

    private static boolean isLetter(int sign) {
        return sign >= 'a' && sign <= 'z';
    }

    /** No byte but blanks may stand where a part begins. */
    private static void everyByteAsAToken() {
        for (int sign = 0; sign < 256; sign++) {
            if (isBlank(sign)) {
                right((char) sign + "pass;" + (char) sign);
            } else {
                error("" + (char) sign, 1, 0);
                error("pass;" + (char) sign, 1, 5);
                error("pass;" + (char) sign + "pass;", 1, 5);
            }
        }
    }

    private static void everyByteInAWord() {
        for (int sign = 0; sign < 256; sign++) {
            String text = "let a" + (char) sign + "=1;";
            if (isBlank(sign) || isDigit(sign) || isLetter(sign)) {
                right(text);
            } else {
                error(text, 1, sign == '=' ? 6 : 5);
            }
            // as its first sign
            text = "let " + (char) sign + "a=1;";
            if (isBlank(sign) || isLetter(sign)) {
                right(text);
            } else {
                error(text, 1, 4);
            }
        }
    }

    private static void everyByteInANumber() {
        for (int sign = 0; sign < 256; sign++) {
            String text = "bid 1" + (char) sign + "2;";
            if (isDigit(sign) || "+-*/".indexOf(sign) >= 0) {
                right(text);
            } else {
                error(text, 1, isBlank(sign) || sign == ';' ? 6 : 5);
            }
        }
    }

    private static void everyByteInASymbol() {
        for (int sign = 0; sign < 256; sign++) {
            String text = "when 1<" + (char) sign + "2 pass;";
            if (isBlank(sign) || isDigit(sign) || sign == '=' || sign == '-') {
                right(text);
            } else {
                // behind a letter it is a name, and behind a ( its ) is missing
                error(text, isLetter(sign) ? 3 : 1, sign == '(' ? 10 : 7);
            }
        }
    }

    private static void longWords() {
        right("let a=1;bid a;");
        right("let abcdefghij=1;bid abcdefghij;");
        error("let abcdefghijk=1;", 1, 4);
        error("let abcdefghi0=1;bid abcdefghi01;", 1, 21);
        right("let zzzzzzzzzz=1;let z999999999=2;let zzzzzzzzz=3;bid zzzzzzzzzz+z999999999+zzzzzzzzz;");
        limit("let zzzzzzzzzz=1;let z999999999=20;let zzzzzzzzz=300;bid zzzzzzzzzz+z999999999+zzzzzzzzz;", 321);
        error("passpasspass;", 1, 0);
        error("bid " + "a".repeat(64) + ";", 1, 4);
        error("bid " + "a".repeat(500), 1, 4);
        // a word that is too long is an error 1 also where another one is an error 3
        error("bid abcdefghij;", 3, 4);
        error("bid abcdefghijk;", 1, 4);
    }

    private static void longNumbers() {
        right("bid 0;");
        right("bid 99999;");
        error("bid 100000;", 1, 4);
        right("bid 00000;");
        error("bid 000000;", 1, 4);
        limit("bid 00007;", 7);
        error("bid " + "9".repeat(500), 1, 4);
        error("bid 1+(2*1234567);", 1, 9);
        limit("bid 99999-99998;", 1);
        limit("bid 99999/10;", 9999);
        limit("bid 90000/10;", 9000);
    }

    private static void tokensWithoutBlanks() {
        right("when 1<2bid 3;");
        right("when 1<2and 3<4or 5<6pass;");
        right("when[1<2]pass;");
        right("when[1<2]bid(3);");
        right("bid-3;");
        right("bid(3);bid min(1,2);pass;");
        right("let a=1;let b=a;");
        error("bid3;", 1, 0);
        error("leta=1;", 1, 0);
        error("whennot 1<2 pass;", 1, 0);
        error("when 1<2 andnot 3<4 pass;", 1, 9);
        error("when not1<2 pass;", 3, 5);
        error("bid 12ab;", 1, 6);
        error("bid a1 2;", 1, 7);
        right("let\na=\n1\n;\n\nbid\n a\n;\n");
        right("  let  a  =  1  ;  ");
    }

    private static void longestTokens() {
        right("when 1<=2 pass;");
        right("when 1>=2 pass;");
        error("when 1< =2 pass;", 1, 8);
        error("when 1> =2 pass;", 1, 8);
        error("when 1<\n=2 pass;", 1, 8);
        error("when 1=<2 pass;", 1, 7);
        error("when 1=>2 pass;", 1, 7);
        error("when 1==2 pass;", 1, 7);
        error("when 1<>2 pass;", 1, 7);
        error("when 1<==2 pass;", 1, 8);
        error("let a<=1;", 1, 5);
        error("let a>=1;", 1, 5);
        right("when 1<-2 pass;");
        right("when 1<=-2 pass;");
        right("bid 1--2;");
        right("bid 1*-2;");
    }

    /** The end of the tape is an error at its length, also behind blanks. */
    private static void endOfTheTape() {
        String[] texts = {"let", "let a", "let a=", "let a=1", "let a=1+", "when", "when not", "when [", "when 1",
            "when 1<", "when 1<2", "when 1<2 and", "when 1<2 or", "when [1<2", "when 1<2 bid", "bid", "bid 1",
            "bid -", "bid (", "bid (1", "bid min", "bid min(", "bid min(1", "bid min(1,", "bid min(1,2", "pass"};
        for (String text : texts) {
            error(text, 1, text.length());
            error(text + " \n ", 1, text.length() + 3);
            error("pass;" + text, 1, text.length() + 5);
        }
    }

    private static void keywordsAndNames() {
        String[] keywords = {"let", "when", "bid", "pass", "and", "or", "not", "min", "max"};
        for (String keyword : keywords) {
            error("let " + keyword + "=1;", 1, 4);
            right("let " + keyword + "s=1;bid " + keyword + "s;");
            right("let " + keyword + "0=1;bid " + keyword + "0;");
            if (keyword.length() > 2) {
                String shorter = keyword.substring(0, keyword.length() - 1);
                right("let " + shorter + "=1;bid " + shorter + ";");
            }
        }
        String[] given = {"micron", "length", "yield", "weight", "clean", "bales", "class", "index", "need", "purse",
            "bought", "rivals", "turn"};
        for (String name : given) {
            error("let " + name + "=1;", 2, 4);
            right("bid " + name + ";");
            right("let " + name + "0=1;bid " + name + "0;");
            String shorter = name.substring(0, name.length() - 1);
            error("bid " + shorter + ";", 3, 4);
            right("let " + shorter + "=1;");
        }
    }

    /** Each name of two signs against all others: none is taken for another one. */
    private static void allNamesDiffer() {
        String signs = "abcdefghijklmnopqrstuvwxyz0123456789";
        for (String told : new String[] {"ca", "d0", "a9", "zz"}) {
            for (int i = 0; i < 26 * 36; i++) {
                String name = "" + signs.charAt(i / 36) + signs.charAt(i % 36);
                boolean keyword = name.equals("or");
                boolean same = name.equals(told);
                error("let " + told + "=1;bid " + name + ";", keyword ? 1 : same ? 0 : 3, same ? -1 : 13);
            }
        }
    }

    private static void deep(String ahead, String open, String middle, String close, String behind, int place) {
        right(ahead + open.repeat(8) + middle + close.repeat(8) + behind);
        error(ahead + open.repeat(9) + middle + close.repeat(9) + behind, 1,
            ahead.length() + open.length() * 8 + place);
        error(ahead + open.repeat(9), 1, ahead.length() + open.length() * 8 + place);
    }

    private static void depthOfEach() {
        deep("bid ", "(", "1", ")", ";", 0);
        deep("bid ", "-", "1", "", ";", 0);
        deep("bid ", "min(", "1", ",1)", ";", 3);
        deep("bid ", "max(", "1", ",1)", ";", 3);
        deep("bid ", "max(1,", "1", ")", ";", 3);
        deep("bid ", "(1+", "1", ")", ";", 0);
        deep("let a=", "(", "1", ")", ";", 0);
        deep("when ", "[", "1<2", "]", "pass;", 0);
        deep("when ", "not ", "1<2", "", " pass;", 0);
        deep("when ", "(", "1", ")", "<2 pass;", 0);
        deep("when 1<", "(", "1", ")", " pass;", 0);
        deep("when 1<2 bid ", "-", "1", "", ";", 0);
        deep("when 1<2 and ", "[", "1<2", "]", "pass;", 0);
        // of different ones
        right("when not[not[not[not[1<2]]]]pass;");
        error("when not[not[not[not[not 1<2]]]]pass;", 1, 21);
        error("when not[not[not[not[[1<2]]]]]pass;", 1, 21);
        error("when not[not[not[not[(1)<2]]]]pass;", 1, 21);
        error("when not[not[not[not[1<-2]]]]pass;", 1, 23);
        error("when not[not[not[not[min(1,2)<2]]]]pass;", 1, 24);
        right("bid -(-(-(min(1,-2))));");
        error("bid -(-(-(min(1,-(-2)))));", 1, 17);
        right("bid -(-(-(min(1,-2)+max(-1,2))));");
    }

    private static void depthGoesBack() {
        String eight = "(".repeat(8) + "1" + ")".repeat(8);
        right("bid " + eight + "+" + eight + "*" + eight + "-" + eight + ";bid " + eight + ";");
        right("bid " + "-".repeat(8) + "1-" + "-".repeat(8) + "1*" + "-".repeat(8) + "1;");
        error("bid " + "-".repeat(8) + "1-" + "-".repeat(9) + "1;", 1, 22);
        right("when " + eight + "<" + eight + " and " + eight + "<" + eight + " pass;");
        right("when not 1<2 and [[[[[[[[1<2]]]]]]]] pass;");
        error("when not [[[[[[[[1<2]]]]]]]] pass;", 1, 16);
        right("when not [[[[[[[1<2]]]]]]] and not [[[[[[[1<2]]]]]]] or not [[[[[[[1<2]]]]]]] pass;");
        right("when not (1)<2 and not " + "(".repeat(7) + "1" + ")".repeat(7) + "<2 pass;");
        error("when not " + eight + "<2 pass;", 1, 16);
        error("when not 1<" + eight + " pass;", 1, 18);
        right("bid min(" + "(".repeat(7) + "1" + ")".repeat(7) + "," + "(".repeat(7) + "1" + ")".repeat(7) + ");");
        error("bid min(1," + eight + ");", 1, 17);
        error("bid min(" + eight + ",1);", 1, 15);
        right("let a=" + eight + ";let b=" + eight + ";when [[[[[[[[1<2]]]]]]]] bid " + eight + ";");
    }

    private static void tokens() {
        String most = "pass;".repeat(125);
        right(most);
        right(most + "\n ");
        String[] more = {"p", "pass;", ";", "5", "?", "abcdefghijk", "123456", "(", "<=", "\000"};
        for (String text : more) {
            error(most + text, 1, 625);
            error(most + "  " + text + " ", 1, 627);
        }
        // 249 tokens and the end of the tape, 250 tokens and the end of the tape
        error("pass;".repeat(124) + "pass", 1, 624);
        error("pass;".repeat(124) + "bid 1", 1, 625);
        error("pass;".repeat(124) + "bid 1;", 1, 625);
        // an error ahead of the 251st token is told first
        error("pass;".repeat(124) + "; " + "pass;".repeat(3), 1, 620);
        error("pass;".repeat(124) + "pass pass;", 1, 625);
        // a name is only looked at if the tokens are right
        error("bid b;" + "pass;".repeat(123), 3, 4);
        error("bid b;" + "pass;".repeat(124), 1, 625);
        limit("bid 1" + "+1".repeat(123) + ";", 124);
        limit("when 1<2 bid " + "7-".repeat(119) + "1+844;pass;", 24);
        limit("let a=1" + "+1".repeat(118) + ";let b=a;bid b;", 119);
    }

    private static final String EIGHT =
        "let a=1;let b=2;let c=3;let d=4;let e=5;let f=6;let g=7;let h=8;";

    private static void lets() {
        limit(EIGHT + "bid a+b+c+d+e+f+g+h;", 36);
        error(EIGHT + "let i=9;", 4, 68);
        error(EIGHT + "pass;let i=9;", 4, 73);
        error(EIGHT + "let i=9;let j=9;", 4, 68);
        error(EIGHT + "let i=nix;", 4, 68);
        error(EIGHT + "bid nix;let i=9;", 3, 68);
        error(EIGHT + "let a=9;", 2, 68);
        error(EIGHT + "let h=9;", 2, 68);
        error(EIGHT + "let turn=9;", 2, 68);
        error(EIGHT + "let i=9", 1, 71);
        error(EIGHT + "let i=9;bid 1;;", 1, 78);
        error(EIGHT + "let", 1, 67);
    }

    /** An error 1 is told though there are errors of names ahead of it. */
    private static void orderOfErrors() {
        error("let need=1;bid", 1, 14);
        error("bid nix;?", 1, 8);
        error("bid nix;pass;;", 1, 13);
        error("bid nix", 1, 7);
        error("bid nix nix;", 1, 8);
        error("let a=1;let a=2;bid", 1, 19);
        error("bid nix;let need=1;", 3, 4);
        error("let need=1;bid nix;", 2, 4);
        error("let need=nix;", 2, 4);
        error("let a=nix;let a=nox;", 3, 6);
        error("when nix<nox bid nux;", 3, 5);
        error("when 1<nox bid nux;", 3, 7);
        error("when 1<2 bid nux;", 3, 13);
        error("bid min(nix,nox);", 3, 8);
        error("bid min(1,nox);", 3, 10);
        error("bid -(1+nix);", 3, 8);
        error("when not[1<nix]pass;", 3, 11);
    }

    private static void errorsOfNames() {
        error("let a=a;", 3, 6);
        error("let a=1+a;", 3, 8);
        error("let a=1;let a=a;", 2, 12);
        error("let a=1;let b=b;", 3, 14);
        right("let a=1;let b=a;let c=a+b;");
        error("let a=b;let b=1;", 3, 6);
        error("bid a;let a=1;", 3, 4);
        right("let a=1;bid a;let b=a;");
        error("let a=1;let b=1;let a=1;", 2, 20);
        error("let a=1;let b=1;let b=1;", 2, 20);
        right("let a=1;let aa=1;let a0=1;");
    }

    private static void errorAt() {
        WoolSale sale = new WoolSale();
        check.same("no teach", sale.errorAt(), -1);
        sale.addBuyer(0, 0);
        sale.addBuyer(0, 0);
        Check.teach(sale, 0, "?");
        check.same("an error at 0", sale.errorAt(), 0);
        Check.write(sale, "pass;");
        check.index("no such buyer", () -> sale.teach(2));
        check.same("a refused call leaves it", sale.errorAt(), 0);
        check.same("the tape is still there", sale.teach(1), 0);
        check.same("none", sale.errorAt(), -1);
        Check.teach(sale, 1, "bid nix;");
        check.same("of any buyer", sale.errorAt(), 4);
        check.same("the one that was there stays", sale.buyer(1, 8), 1);
        check.same("none was there", sale.buyer(0, 8), -1);
        check.same("an empty tape has none", sale.teach(0), 0);
        check.same("none", sale.errorAt(), -1);
    }

    private static void sumsWrapAround() {
        limit("when " + MAX + ">0 bid 5;", 5);
        limit("when " + MAX + "+1<0 bid 5;", 5);
        limit("when " + MAX + "+1=" + MIN + " bid 5;", 5);
        limit("when " + MAX + "+" + MAX + "=-2 bid 5;", 5);
        limit("when " + MIN + "-1=" + MAX + " bid 5;", 5);
        limit("when -" + MAX + "-1=" + MIN + " bid 5;", 5);
        limit("when -" + MAX + "-2=" + MAX + " bid 5;", 5);
        limit("when " + MIN + "+" + MIN + "=0 bid 5;", 5);
        limit("when -" + MIN + "=" + MIN + " bid 5;", 5);
        limit("when 0-" + MIN + "<0 bid 5;", 5);
        limit("bid " + MAX + ";", 9999);
        limit("bid " + MAX + "+1;", 0);
        limit("bid " + MIN + "-1;", 9999);
        limit("let a=" + MAX + ";let b=a+a;bid b+12;", 10);
    }

    private static void productsWrapAround() {
        limit("bid 65536*65535;", 0);
        limit("bid 65536*65536;", 0);
        limit("bid 65536*65536+7;", 7);
        limit("bid 65537*65537-65536*2;", 1);
        limit("when 99999*99999=65536*21512+54977 bid 5;", 5);
        limit("when 65536*32768<0 bid 5;", 5);
        limit("when " + MIN + "*-1=" + MIN + " bid 5;", 5);
        limit("when " + MIN + "*2=0 bid 5;", 5);
        limit("when " + MAX + "*2=-2 bid 5;", 5);
        limit("when " + MAX + "*" + MAX + "=1 bid 5;", 5);
        limit("when " + MAX + "*" + MIN + "=" + MIN + " bid 5;", 5);
    }

    private static void divisionBy0() {
        limit("bid 7/0;", 0);
        limit("bid 7/0+3;", 3);
        limit("bid 0/0+3;", 3);
        limit("bid -7/0+3;", 3);
        limit("bid 3+7/(5-5);", 3);
        limit("let a=0;bid 3+7/a;", 3);
        limit("bid 3+7/need;", 3);
        limit("bid 3+" + MAX + "/0;", 3);
        limit("bid 3+" + MIN + "/0;", 3);
        limit("bid 3+100/(7/8);", 3);
        limit("when 1/0=0 bid 5;", 5);
        limit("when 1/0<0 or 1/0>0 bid 5;bid 6;", 6);
    }

    private static void divisionIsCut() {
        limit("bid 7/2;", 3);
        limit("bid 7/7;", 1);
        limit("bid 7/8;", 0);
        limit("bid 10+-7/2;", 7);
        limit("bid 10+7/-2;", 7);
        limit("bid 10+-7/-2;", 13);
        limit("bid 10+-1/2;", 10);
        limit("when " + MIN + "/-1=" + MIN + " bid 5;", 5);
        limit("when " + MIN + "/1=" + MIN + " bid 5;", 5);
        limit("when " + MIN + "/" + MIN + "=1 bid 5;", 5);
        limit("when " + MAX + "/" + MIN + "=0 bid 5;", 5);
        limit("when " + MIN + "/" + MAX + "=-1 bid 5;", 5);
    }

    /** Far numbers are compared as they are, not by their difference, which wraps around. */
    private static void comparisonsOfFarNumbers() {
        String[] tests = {MIN + "<" + MAX, MIN + "<=" + MAX, MAX + ">" + MIN, MAX + ">=" + MIN,
            "not " + MAX + "<" + MIN, "not " + MAX + "<=" + MIN, "not " + MIN + ">" + MAX,
            "not " + MIN + ">=" + MAX, "not " + MIN + "=" + MAX, MIN + "=" + MIN, MAX + "=" + MAX,
            "min(" + MIN + "," + MAX + ")=" + MIN, "min(" + MAX + "," + MIN + ")=" + MIN,
            "max(" + MIN + "," + MAX + ")=" + MAX, "max(" + MAX + "," + MIN + ")=" + MAX};
        for (String test : tests) {
            limit("when " + test + " bid 5;", 5);
        }
        // just there, and just not
        limit("when 1<2 bid 5;", 5);
        limit("when 2<2 bid 5;", -1);
        limit("when 2<=2 bid 5;", 5);
        limit("when 3<=2 bid 5;", -1);
        limit("when 3>2 bid 5;", 5);
        limit("when 2>2 bid 5;", -1);
        limit("when 2>=2 bid 5;", 5);
        limit("when 1>=2 bid 5;", -1);
        limit("when 2=2 bid 5;", 5);
        limit("when 1=2 bid 5;", -1);
        limit("when 3=2 bid 5;", -1);
        limit("bid min(2,2)+10*max(2,2);", 22);
    }

    private static void limits() {
        limit("bid -1;", 0);
        limit("bid 0;", 0);
        limit("bid 1;", 1);
        limit("bid 9998;", 9998);
        limit("bid 9999;", 9999);
        limit("bid 10000;", 9999);
        limit("bid 99999;", 9999);
        limit("bid " + MIN + ";", 0);
    }

    private static void ofPurse(int purse, String text, int due) {
        WoolSale sale = Check.saleOf(1);
        sale.addBuyer(purse, 0);
        Check.teach(sale, 0, text);
        check.same("limit by " + text + " and a purse of " + purse, sale.limit(0, 0), due);
    }

    /** The clean weight is 60. */
    private static void purses() {
        ofPurse(0, "bid 9;", 0);
        ofPurse(0, "pass;", -1);
        ofPurse(59, "bid 9;", 0);
        ofPurse(60, "bid 9;", 1);
        ofPurse(539, "bid 9;", 8);
        ofPurse(540, "bid 9;", 9);
        ofPurse(600, "bid 9;", 9);
        ofPurse(599939, "bid 9999;", 9998);
        ofPurse(599940, "bid 9999;", 9999);
        ofPurse(600000, "bid 10000;", 9999);
        ofPurse(599939, "bid 10000;", 9998);
        ofPurse(540, "bid -1;", 0);
    }

    private static void noLimit() {
        limit("", -1);
        limit("pass;", -1);
        limit("when 1>2 bid 5;", -1);
        limit("when 1>2 pass;", -1);
        limit("let a=5;", -1);
        limit("pass;bid 5;", -1);
        limit("bid 5;pass;", 5);
        limit("when 1<2 pass;bid 5;", -1);
        limit("when 1>2 pass;bid 5;", 5);
        limit("when 1<2 bid 5;bid 6;", 5);
        limit("bid -5;bid 6;", 0);
        WoolSale sale = Check.saleOf(1, -1);
        check.same("without a program", sale.limit(0, 0), -1);
        Check.teach(sale, 0, "bid;");
        check.same("behind an error", sale.limit(0, 0), -1);
    }

    private static void parts(String text, int due) {
        WoolSale sale = new WoolSale();
        sale.addBuyer(0, 0);
        check.same("without a program", sale.buyer(0, 8), -1);
        Check.teach(sale, 0, text);
        check.same("parts of " + text, sale.buyer(0, 8), due);
    }

    private static void parts() {
        parts("", 0);
        parts("pass;", 1);
        parts("let a=1;", 1);
        parts(EIGHT, 8);
        parts("when 1<2 or 2<3 bid 5;let a=1;pass;", 3);
        parts("pass;".repeat(125), 125);
        parts("pass;".repeat(125) + "pass;", -1);
        parts("pass;;", -1);
    }

    private static void given(WoolSale sale, int buyer, int lot, String name, int due) {
        check.same("teach " + name, Check.teach(sale, buyer, "bid " + name + ";"), 0);
        check.same(name, sale.limit(buyer, lot), due);
    }

    private static void givenNamesAtTheirEnds() {
        WoolSale sale = new WoolSale();
        sale.addGrower();
        sale.bring(0, 14, 30, 40, 50);
        for (int i = 0; i < 12; i++) {
            sale.bring(0, 40, 120, 80, 200);
        }
        check.same("two lots", sale.pool(10, 60, 12), 2);
        for (int b = 0; b < 6; b++) {
            sale.addBuyer(10000000, b == 0 ? 0 : 100000);
        }
        int[][] due = {{14, 40}, {30, 120}, {40, 80}, {50, 2400}, {20, 1920}, {1, 12}, {4, 13}, {0, 0}, {0, 1}};
        String[] names = {"micron", "length", "yield", "weight", "clean", "bales", "class", "index", "turn"};
        for (int i = 0; i < names.length; i++) {
            given(sale, 0, 0, names[i], due[i][0]);
            given(sale, 0, 1, names[i], due[i][1]);
        }
        given(sale, 0, 0, "need", 0);
        given(sale, 1, 0, "need/100", 1000);
        given(sale, 1, 0, "purse/10000", 1000);
        given(sale, 1, 0, "bought", 0);
        given(sale, 5, 0, "rivals", 2);
        int[] rivals = {2, 2, 3, 4, 5, 5};
        for (int b = 0; b < 6; b++) {
            given(sale, b, 0, "rivals", rivals[b]);
        }
        check.same("all others have programs", sale.limit(0, 0), 5);
        WoolSale lots = Check.saleOf(30, 5);
        given(lots, 0, 29, "turn", 29);
        given(lots, 0, 0, "rivals", 0);
        Check.teach(lots, 0, "bid 5000;");
        lots.sell(0, 2, 0, 1);
        given(lots, 0, 29, "index", 5000);
        given(lots, 0, 29, "bought", 60);
        given(lots, 0, 29, "need-99900", 40);
        given(lots, 0, 29, "purse/1000", 9700);
    }
}
