/** Promises 1 to 7: the new object, the TAPE, the four texts and their FAULTS. */
public final class TextsTest {
    private static final String TOWN = "slab 0 20;slab 1 30;soul 2 40;soul 0 10;kin 1 1;";

    private TextsTest() {
    }

    public static void main(String[] args) {
        newObject();
        feed();
        county();
        countyFaults();
        law();
        lawFaults();
        lawValues();
        work();
        workFaults();
        workLimits();
        book();
        fault();
        Kit.end();
    }

    private static void newObject() {
        Kit.part("promise 1");
        CryptBank x = new CryptBank();
        for (int what = 0; what <= 11; what++) {
            Kit.due("told(" + what + ")", x.told(what), 0);
        }
        for (int what = 0; what <= 2; what++) {
            Kit.due("count(" + what + ")", x.count(what), 0);
        }
        Kit.due("fault()", x.fault(), -1);
        Kit.due("NONE", CryptBank.NONE, -1);
        Kit.due("would by no law", x.would(20, 7, 0, 0, 0, 0, 0, 0), 35);
        Kit.noSuch("slab(0, 0)", () -> x.slab(0, 0));
        Kit.noSuch("soul(0, 0)", () -> x.soul(0, 0));
    }

    private static void feed() {
        Kit.part("promise 2");
        CryptBank x = new CryptBank();
        Kit.due("the highest byte first", x.feed(0x736c6162, 0x20322037, 0x3b000000, 0, 0), 20);
        Kit.due("county of it", x.county(9), 1);
        Kit.due("its kind", x.slab(0, 0), 2);
        Kit.due("what is under it", x.slab(0, 1), 7);
        for (int i = 1; i <= 30; i++) {
            Kit.due("feed " + i, x.feed(0, 0, 0, 0, 0), 20 * i);
        }
        Kit.due("feed beyond 600", x.feed(0, 0, 0, 0, 0), -1);
        Kit.due("bytes then", x.count(1), 600);
        Kit.illegal("law(151)", () -> x.law(151));
        Kit.due("bytes behind a refusal", x.count(1), 600);
        Kit.due("law of zeros", x.law(150), -9);
        Kit.due("bytes behind a text", x.count(1), 0);
        // Bytes of 128 and more are no small numbers.
        x.feed(-1, -1, -1, -1, -1);
        Kit.due("law of bytes 255", x.law(3), -9);
        Kit.due("fault()", x.fault(), 0);
    }

    private static void county() {
        Kit.part("promise 3");
        CryptBank x = Kit.bank(TOWN);
        Kit.due("told(0)", x.told(0), 2);
        Kit.due("told(1)", x.told(1), 2);
        Kit.due("kin", x.slab(1, 5), 2);
        Kit.due("no blanks between a word and a number", Kit.county(x, "slab0 7;soul9 99;kin0 0;"), 1);
        Kit.due("many blanks", Kit.county(x, "   slab   0   60   ;   soul 0 0 ;  "), 1);
        Kit.due("digits, as many as stand there", Kit.county(x, "slab 00000000000000005 000060;"), 1);
        Kit.due("its kind", x.slab(0, 0), 5);
        Kit.due("kin once more", Kit.county(x, "slab 0 1;soul 0 1;kin 0 0;kin 0 0;"), 1);
        Kit.due("kin is as once", x.slab(0, 5), 1);
        Kit.due("kin are not kept", Kit.county(x, "slab 0 1;soul 0 1;") + x.slab(0, 5), 1);
        Kit.due("blanks alone", Kit.county(x, "    "), 0);
        Kit.due("told(1) then", x.told(1), 0);
        countyForgets();
        countyRefuses();
        Kit.due("60 clauses", Kit.county(x, "soul 0 0;slab 0 0;" + "kin 0 0;".repeat(58)), 1);
        Kit.due("8 slabs, 6 souls", Kit.county(x, "slab 0 1;".repeat(8) + "soul 1 1;".repeat(6)), 8);
        Kit.due("600 bytes", Kit.county(x, TOWN + " ".repeat(600 - TOWN.length())), 2);
    }

    private static void countyForgets() {
        CryptBank x = Kit.bank(TOWN);
        Kit.law(x, "7");
        Kit.book(x, "0 0 5;");
        Kit.work(x, "lend 0 0 5 1;pay 9;night;seal 1;");
        x.image();
        Kit.due("told(10) ahead", x.told(10), 1);
        Kit.county(x, "slab 3 9;");
        Kit.due("law", x.would(10, 0, 0, 0, 0, 0, 0, 0), 11);
        Kit.due("lines", x.told(9), 0);
        Kit.due("images", x.count(0), 0);
        Kit.due("works", x.count(2), 0);
        Kit.due("refused steps", x.told(10), 0);
        Kit.due("night", x.told(3), 0);
        Kit.due("loans", x.told(2), 0);
        Kit.due("sealed", x.told(4), 0);
    }

    private static void countyRefuses() {
        CryptBank x = Kit.bank(TOWN);
        Kit.work(x, "night;");
        Kit.feed(x, "slab 0 0;");
        Kit.illegal("county(21)", () -> x.county(21));
        Kit.illegal("county(-1)", () -> x.county(-1));
        Kit.due("the tape stays", x.count(1), 20);
        Kit.due("a fault", x.county(8), -9);
        Kit.due("the tape is empty", x.count(1), 0);
        Kit.due("all stays: slabs", x.told(0), 2);
        Kit.due("all stays: night", x.told(3), 1);
        Kit.due("all stays: works", x.count(2), 1);
    }

    private static void countyFault(String text, int answer, int place) {
        CryptBank x = Kit.bank(TOWN);
        Kit.due("county '" + text + "'", Kit.county(x, text), answer);
        Kit.due("fault of '" + text + "'", x.fault(), place);
        Kit.due("slabs behind '" + text + "'", x.told(0), 2);
    }

    private static void countyFaults() {
        Kit.part("promise 3, faults");
        countyFault("slab", -9, 4);
        countyFault("slab  ", -9, 6);
        countyFault("slab 0 0", -9, 8);
        countyFault("slab 0 0;x", -9, 9);
        countyFault("slab 0;", -9, 6);
        countyFault("slab 0 0 0;", -9, 9);
        countyFault("slabs 0 0;", -9, 0);
        countyFault("Slab 0 0;", -9, 0);
        countyFault("xlab 0 0;", -9, 0);
        countyFault("slabz 0 0;", -9, 0);
        countyFault(";", -9, 0);
        countyFault("slab 6 99;", -8, 5);
        countyFault("slab 5 61;", -8, 7);
        countyFault("slab 4294967296 0;", -8, 5);
        countyFault("soul 10 0;", -8, 5);
        countyFault("soul 9 100;", -8, 7);
        countyFault("slab 0 0;kin 0 0;", -8, 13);
        countyFault("soul 0 0;kin 0 0;", -8, 15);
        countyFault("slab 0 0;".repeat(9), -7, 72);
        countyFault("slab 0 0;".repeat(8) + " slab", -7, 73);
        countyFault("soul 0 0;".repeat(7), -7, 54);
        countyFault("soul 0 0;slab 0 0;" + "kin 0 0;".repeat(58) + "kin 9 9;", -7, 18 + 58 * 8);
        countyFault("soul 0 0;slab 0 0;" + "kin 0 0;".repeat(58) + "kim 9 9;", -9, 18 + 58 * 8);
        countyFault("soul 0 0;slab 0 0;" + "kin 0 0;".repeat(58) + ";", -9, 18 + 58 * 8);
    }

    private static void law() {
        Kit.part("promise 4");
        CryptBank x = Kit.bank(TOWN);
        Kit.due("law", Kit.law(x, "amount"), 1);
        Kit.due("by it", x.would(10, 9, 0, 0, 0, 0, 0, 0), 10);
        Kit.due("a faulty law", Kit.law(x, "amount+"), -9);
        Kit.due("the law stays", x.would(10, 9, 0, 0, 0, 0, 0, 0), 10);
        Kit.due("150 bytes", Kit.law(x, "1" + "+1".repeat(74) + " "), 1);
        Kit.due("by these", x.would(1, 0, 0, 0, 0, 0, 0, 0), 75);
        Kit.feed(x, "1".repeat(160));
        Kit.illegal("law(151)", () -> x.law(151));
        Kit.due("the tape stays", x.count(1), 160);
        Kit.due("law(0)", x.law(0), -9);
        Kit.feed(x, "1");
        Kit.illegal("law(21)", () -> x.law(21));
        Kit.illegal("law(-1)", () -> x.law(-1));
        Kit.due("the first byte alone", x.law(1), 1);
        Kit.feed(x, "77");
        Kit.due("one digit of two", x.law(1), 1);
        Kit.due("by that digit", x.would(1, 0, 0, 0, 0, 0, 0, 0), 7);
        Kit.feed(x, "kind");
        Kit.due("three letters of four", x.law(3), 1);
        Kit.due("by that word", x.would(1, 0, 5, 1, 0, 0, 0, 0), 1);
        Kit.law(x, "1");
        Kit.work(x, "lend 0 0 9 1;");
        Kit.due("owed by the new law", x.loan(0, 6), 1);
        Kit.due("works stay with a law", x.count(2), 1);
    }

    private static void lawFault(String text, int answer, int place) {
        CryptBank x = new CryptBank();
        Kit.due("law '" + text + "'", Kit.law(x, text), answer);
        Kit.due("fault of '" + text + "'", x.fault(), place);
    }

    private static void lawFaults() {
        Kit.part("promise 4, faults");
        lawFault("  ", -9, 2);
        lawFault("+1", -9, 0);
        lawFault("-1", -9, 0);
        lawFault("1 2", -9, 2);
        lawFault("1 1000", -9, 2);
        lawFault("1)", -9, 1);
        lawFault("1+ ", -9, 3);
        lawFault("1**2", -9, 2);
        lawFault("(1", -9, 2);
        lawFault("(1]", -9, 2);
        lawFault("()", -9, 1);
        lawFault("least(1,2)", -9, 5);
        lawFault("least[1;2]", -9, 7);
        lawFault("least[1]", -9, 7);
        lawFault("most[1,2,3]", -9, 8);
        lawFault("most", -9, 4);
        lawFault("kinds", -9, 0);
        lawFault("kind kin", -9, 5);
        lawFault("kind2", -9, 4);
        lawFault("1 + 1000 + x", -8, 4);
        lawFault("99999999999999999999999", -8, 0);
        lawFault("2*1000", -8, 2);
        lawFault("((((((1))))))", 1, -1);
        lawFault("(((((((1)))))))", -7, 6);
        lawFault("((((((least", -7, 6);
        lawFault("((((((leas", -9, 6);
        lawFault("least[1,(((((most[1,2])))))]", -7, 13);
        lawFault("least[1,((((most[1,2]))))]", 1, -1);
        lawFault("most[(1),((((((2))))))]", -7, 14);
        lawFault("most[(((((1))))),2]", 1, -1);
        lawFault("most[((((((1)))))),2]", -7, 10);
        lawFault("(1)+(1)+(1)+(1)+(1)+(1)+(1)+(1)", 1, -1);
    }

    private static void lawValue(String text, int value) {
        CryptBank x = new CryptBank();
        Kit.due("law '" + text + "'", Kit.law(x, text), 1);
        Kit.due("value of '" + text + "'", x.would(11, 22, 3, 1, 4, 55, 66, 5), value);
    }

    private static void lawValues() {
        Kit.part("promise 4, values");
        lawValue("amount", 11);
        lawValue("nights", 22);
        lawValue("kind", 3);
        lawValue("kin", 1);
        lawValue("standing", 4);
        lawValue("left", 55);
        lawValue("night", 66);
        lawValue("soul", 5);
        lawValue("2+3*4", 14);
        lawValue("(2+3)*4", 20);
        lawValue("20-5-3", 12);
        lawValue("100/7/2", 7);
        lawValue("100/7*7", 98);
        lawValue("100%7", 2);
        lawValue("50+(3-10)/2", 47);
        lawValue("50+(3-10)%4", 47);
        lawValue("50+7%(0-4)", 53);
        lawValue("9+5/0", 9);
        lawValue("9+5%0", 9);
        lawValue("least[3,2]+most[3,2]", 5);
        lawValue("least [ 1 + 1 , 3 ]", 2);
        lawValue("most[0-1,0-2]+9", 8);
        lawValue("5-9", 0);
        lawValue("200", 200);
        lawValue("201", 200);
        // The product wraps to 690,047,699; without a wrap 200 would come out.
        lawValue("999*999*999*5/999/999/5", 138);
        lawValue("128*128*128*128*8", 0);
        lawValue("(0-128*128*128*128*8)/(0-1)", 0);
        lawValue("(128*128*128*64*16)%(0-1)+3", 3);
        lawValue("(128*128*128*64*16)/(0-1)/999/999/100", 0);
        lawValue("(128*128*128*64*16-1)/999/999/20", Integer.MAX_VALUE / 999 / 999 / 20);
    }

    private static void work() {
        Kit.part("promise 5");
        CryptBank x = Kit.bank(TOWN);
        Kit.due("nothing to do", Kit.work(x, ""), 0);
        Kit.due("it counts as work", x.count(2), 1);
        Kit.due("lend, pay, earn, seal, open, night",
                Kit.work(x, "lend 0 0 5 3;pay 0;earn 1 4;seal 1;open 1;night;"), 6);
        Kit.due("purse of 0", x.soul(0, 2), 34);
        Kit.due("standing of 0", x.soul(0, 0), 3);
        Kit.due("purse of 1", x.soul(1, 2), 14);
        Kit.due("under 0", x.slab(0, 1), 21);
        Kit.due("refused ones are not counted", Kit.work(x, "pay 0;open 1;seal 1;seal 1;lend 0 1 1 1;"), 1);
        Kit.due("told(10)", x.told(10), 4);
        Kit.due("standing 0, no kin", Kit.work(x, "lend 1 0 1 1;"), 0);
        Kit.due("standing 0, but kin", Kit.work(x, "open 1;lend 1 1 30 1;"), 2);
        Kit.due("no more than there is", Kit.work(x, "lend 1 1 1 1;lend 0 0 22 1;lend 0 0 21 1;"), 1);
        Kit.due("told(10) then", x.told(10), 2);
        Kit.feed(x, "night;");
        Kit.illegal("work(21)", () -> x.work(21));
        Kit.illegal("work(-1)", () -> x.work(-1));
        Kit.due("work(6)", x.work(6), 1);
        Kit.feed(x, "night;".repeat(26));
        Kit.illegal("work(151)", () -> x.work(151));
        Kit.due("work(150)", x.work(150), 25);
        Kit.due("a fault", Kit.work(x, "night;night"), -9);
        Kit.due("of which no step is done", x.told(3), 27);
        Kit.due("told(10) behind a fault", x.told(10), 0);
        Kit.due("nested", Kit.work(x, "again 2[again 3 [night ; ] ; earn 0 1;] ;"), 8);
        Kit.due("nights", x.told(3), 33);
        Kit.due("again 0", Kit.work(x, "again 0[night;];again 30[];"), 0);
        payAndDue();
    }

    private static void payAndDue() {
        CryptBank x = Kit.bank("slab 0 60;slab 0 60;soul 9 99;soul 1 20;");
        Kit.work(x, "lend 0 0 10 2;lend 1 1 20 1;lend 0 1 5 9;lend 1 0 1 9;night;");
        Kit.due("due tonight is not overdue", x.told(7), 0);
        Kit.work(x, "night;");
        Kit.due("overdue", x.told(7), 2);
        Kit.due("sealed", x.told(4), 2);
        Kit.due("standing", x.soul(1, 0), 0);
        Kit.due("once overdue, no more", Kit.work(x, "night;open 1;night;pay 1;"), 3);
        Kit.due("sealed by the other", x.told(4), 1);
        Kit.due("standing of 0", x.soul(0, 0), 8);
        Kit.due("refused: too dear", x.told(10), 1);
        Kit.due("paid", Kit.work(x, "earn 1 60;pay 1;"), 2);
        Kit.due("no standing for an overdue one", x.soul(1, 0), 0);
        Kit.due("the numbers behind are 1 less", x.loan(1, 2), 5);
        Kit.due("loans", x.told(2), 3);
        Kit.due("purse", x.soul(1, 2), 80 - (20 + 20 * 4 / 10 + 1));
        Kit.due("under", x.slab(1, 1), 60 - 25 + 29);
        Kit.due("standing for one in time", Kit.work(x, "pay 2;"), 1);
        Kit.due("standing", x.soul(1, 0), 1);
        CryptBank y = Kit.bank("slab 0 60;soul 9 99;");
        Kit.law(y, "99");
        Kit.work(y, "lend 0 0 1 1;pay 0;");
        Kit.due("99 at most under it", y.slab(0, 1), 99);
        Kit.due("an empty purse", y.soul(0, 2), 0);
        Kit.due("standing 9 at most", y.soul(0, 0), 9);
        Kit.due("lent while standing, by all there is", Kit.work(y, "lend 0 0 60 40;"), 1);
        Kit.due("due", y.loan(0, 4), 40);
    }

    private static void workFault(String text, int answer, int place) {
        CryptBank x = Kit.bank(TOWN);
        Kit.due("work '" + text + "'", Kit.work(x, text), answer);
        Kit.due("fault of '" + text + "'", x.fault(), place);
        Kit.due("works behind '" + text + "'", x.count(2), 0);
    }

    private static void workFaults() {
        Kit.part("promise 5, faults");
        workFault("night", -9, 5);
        workFault("night;]", -9, 6);
        workFault("nights;", -9, 0);
        workFault("lend 0 0 1;", -9, 10);
        workFault("lend 2 0 1 1;", -8, 5);
        workFault("lend 0 2 1 1;", -8, 7);
        workFault("lend 0 0 0 1;", -8, 9);
        workFault("lend 0 0 60 41;", -8, 12);
        workFault("lend 0 0 61 1;", -8, 9);
        workFault("lend 0 0 1 0;", -8, 11);
        workFault("pay 10;", -8, 4);
        workFault("pay;", -9, 3);
        workFault("earn 2 1;", -8, 5);
        workFault("earn 0 61;", -8, 7);
        workFault("seal 2;", -8, 5);
        workFault("open 2;", -8, 5);
        workFault("again 31[];", -8, 6);
        workFault("again 3;", -9, 7);
        workFault("again [];", -9, 6);
        workFault("again 3[", -9, 8);
        workFault("again 3[night]", -9, 13);
        workFault("again 3[night;]", -9, 15);
        workFault("again 3[night;;", -9, 14);
        workFault("again 1[".repeat(7), -7, 48);
        workFault("again 1[".repeat(6) + "agai", -9, 48);
        CryptBank x = Kit.bank(TOWN);
        Kit.due("six open", Kit.work(x, "again 1[".repeat(6) + "night;" + "];".repeat(6)), 1);
        Kit.due("seven, one behind the other", Kit.work(x, "again 1[];".repeat(7)), 0);
        CryptBank none = new CryptBank();
        Kit.due("no slabs", Kit.work(none, "seal 0;"), -8);
        Kit.due("no souls", Kit.work(none, "earn 0 1;"), -8);
    }

    private static void workLimits() {
        Kit.part("promise 5, limits");
        CryptBank x = Kit.bank(TOWN);
        Kit.due("200 steps begun", Kit.work(x, "again 30[night;night;night;night;night;night;night;];"), 199);
        Kit.due("each again begins, too", Kit.work(x, "again 30[again 1[night;];];"), 30);
        Kit.due("and counts", Kit.work(x, "again 30[again 30[again 0[];];];night;"), 0);
        Kit.due("refused ones count, too", Kit.work(x, "again 30[pay 0;pay 0;pay 0;pay 0;pay 0;pay 0;pay 0;];"), 0);
        Kit.due("refused", x.told(10), 199);
        Kit.due("night 400", Kit.work(x, "again 30[again 30[night;];];") , 400 - 229);
        Kit.due("refused from there on", x.told(10), 192 - 171);
        Kit.due("the night", x.told(3), 400);
        Kit.due("earn", Kit.work(x, "again 30[earn 0 60;];"), 5);
        Kit.due("300 at most", x.soul(0, 2), 300);
        Kit.due("earn up to 300", Kit.work(x, "earn 1 60;earn 1 60;earn 1 60;earn 1 60;earn 1 50;earn 1 1;"), 5);
        CryptBank y = Kit.bank("slab 0 60;soul 9 0;");
        Kit.due("10 loans", Kit.work(y, "again 12[lend 0 0 1 1;];"), 10);
        for (int i = 2; i <= 16; i++) {
            Kit.due("work " + i, Kit.work(y, "night;"), 1);
        }
        Kit.due("a faulty text ahead", Kit.law(y, "x"), -9);
        Kit.due("work 17", Kit.work(y, "nig"), -20);
        Kit.due("no fault", y.fault(), -1);
        Kit.due("the tape is empty", y.count(1), 0);
        Kit.illegal("work(1) of an empty tape", () -> y.work(1));
        Kit.due("work 17 of nothing", y.work(0), -20);
        Kit.due("nights stay", y.told(3), 15);
        Kit.due("undo", y.undo(), 15);
        Kit.due("work 16 again", Kit.work(y, "night;"), 1);
    }

    private static void bookFault(String text, int answer, int place) {
        CryptBank x = Kit.bank(TOWN);
        Kit.book(x, "0 0 1;0 0 1;");
        Kit.due("book '" + text + "'", Kit.book(x, text), answer);
        Kit.due("fault of '" + text + "'", x.fault(), place);
        Kit.due("lines behind '" + text + "'", x.told(9), 2);
    }

    private static void book() {
        Kit.part("promise 6");
        CryptBank x = Kit.bank(TOWN);
        Kit.due("book", Kit.book(x, "0 0 1;1 5 60; 1 3 007 ; "), 3);
        Kit.due("told(9)", x.told(9), 3);
        Kit.due("six lines", Kit.book(x, "0 0 1;".repeat(6)), 6);
        Kit.due("none", Kit.book(x, " "), 0);
        Kit.feed(x, "0 0 1;" + " ".repeat(60));
        Kit.illegal("book(61)", () -> x.book(61));
        Kit.illegal("book(-1)", () -> x.book(-1));
        Kit.due("book(60)", x.book(60), 1);
        Kit.feed(x, " ");
        Kit.illegal("book(21)", () -> x.book(21));
        bookFault("2 0 1;", -8, 0);
        bookFault("0 6 1;", -8, 2);
        bookFault("0 0 0;", -8, 4);
        bookFault("0 0 61;", -8, 4);
        bookFault("0 0;", -9, 3);
        bookFault("0 0 1", -9, 5);
        bookFault("x", -9, 0);
        bookFault("0 0 1;".repeat(7), -7, 36);
        bookFault("0 0 1;".repeat(6) + " 0", -7, 37);
        bookFault("0 0 1;".repeat(6) + "2 0 1;", -8, 36);
        bookFault("0 0 1;".repeat(6) + ";", -9, 36);
    }

    private static void fault() {
        Kit.part("promise 7");
        CryptBank x = Kit.bank(TOWN);
        Kit.due("without", x.fault(), -1);
        Kit.law(x, "1+x");
        Kit.due("of a law", x.fault(), 2);
        x.undo();
        x.image();
        x.restore();
        Kit.illegal("county(1)", () -> x.county(1));
        Kit.due("of the latest text still", x.fault(), 2);
        Kit.book(x, "0 0 1;");
        Kit.due("of a fine text", x.fault(), -1);
    }
}
