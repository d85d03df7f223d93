import java.util.Arrays;

/** Part 3 of the Terms and promises 13 to 37, sentence by sentence: what is asked, and changes nothing. */
final class AskedBounds {
    private AskedBounds() {
    }

    static void all() {
        nothingStaysChanged();
        would();
        ahead();
        cheapest();
        clears();
        comes();
        serves();
        served();
        call();
        run();
        all12();
        saint();
        candles();
        richest();
        next();
        shut();
        kind();
        worth();
        broke();
        late();
        trust();
        deepest();
        poorest();
        winter();
        winterWithout();
        draw();
        winterAnswers();
        span();
    }

    /** A bank in NIGHT 400, with nothing done but nights. */
    private static CryptBank lateBank(String county) {
        CryptBank x = Kit.bank(county);
        for (int i = 0; i < 3; i++) {
            Kit.work(x, "again 30[" + "night;".repeat(7) + "];");
        }
        Kit.due("night 400", x.told(3), 400);
        return x;
    }

    private static void nothingStaysChanged() {
        Bounds.sentence(15, "Asked, nothing stays changed");
        Lived.isAnswered("all that can be asked", x -> {
            x.ahead(99, 0);
            x.ahead(99, 1);
            x.ahead(99, 2);
            x.cheapest(0, 0, 1, 40);
            x.cheapest(1, 1, 1, 40);
            x.clears(0);
            x.comes(9);
            x.serves(0);
            x.served(1);
            x.call(5);
            x.run(0, 0);
            x.all(12, 6, 5, 0);
            x.saint(9, 9, 0);
            x.candles(0, 3, 99);
            x.broke(0);
            x.broke(1);
            x.winter(7, 16, 96, 0);
            x.span(7, 20, 8, 96, 2, 1);
            x.shut();
            x.trust(1, 1);
            x.would(60, 999, 5, 1, 9, 99, 999, 5);
        });
        Bounds.sentence(15, "NIGHTS go by as by night (beyond 400, too)");
        CryptBank x = lateBank("slab 0 60;slab 0 60;soul 9 9;");
        Kit.work(x, "lend 0 0 1 1;lend 0 1 1 40;");
        Kit.law(x, "most[0,night-400]");
        Kit.due("the night that is asked for", x.ahead(1, 0), 2);
        Kit.due("99 nights on", x.ahead(99, 0), 198);
        Kit.due("overdue in 401", x.ahead(1, 2), 0);
        Kit.due("overdue in 402", x.ahead(2, 2), 1);
        Kit.due("sealed in 402", x.ahead(2, 1), 1);
        Kit.due("overdue in 440", x.ahead(40, 2), 1);
        Kit.due("overdue in 441", x.ahead(41, 2), 3);
        Kit.due("sealed in 441", x.ahead(41, 1), 3);
        Kit.due("broke in 405", x.broke(0), 5);
        Kit.due("a winter beyond 400 seals", x.winter(0, 0, 96, 2), 3);
    }

    private static void would() {
        Bounds.sentence(13, "OWES by the LAW for such amount (1 to 60)");
        CryptBank x = new CryptBank();
        Kit.law(x, "amount*3-10");
        Kit.due("0 at least", x.would(1, 0, 0, 0, 0, 0, 0, 0), 0);
        Kit.due("170", x.would(60, 0, 0, 0, 0, 0, 0, 0), 170);
        Kit.law(x, "amount*3+20");
        Kit.due("200", x.would(60, 0, 0, 0, 0, 0, 0, 0), 200);
        Kit.law(x, "amount*3+21");
        Kit.due("200 at most", x.would(60, 0, 0, 0, 0, 0, 0, 0), 200);
    }

    private static void ahead() {
        Bounds.sentence(15, "In n NIGHTS (0 to 99), nothing else being done: 0 what all LOANS OWE together, 1 SLABS that"
                + " are SEALED (bits), 2 LOANS that are OVERDUE (bits)");
        CryptBank x = Kit.bank("slab 0 60;slab 1 60;soul 9 99;soul 0 0;kin 1 1;");
        for (int what = 0; what <= 2; what++) {
            Kit.due("without loans", x.ahead(99, what), 0);
        }
        Kit.law(x, "nights+standing*100");
        Kit.work(x, "lend 1 1 1 40;lend 0 0 1 1;");
        Kit.due("now", x.ahead(0, 0), 0 + 200);
        Kit.due("by a night", x.ahead(1, 0), 1 + 200);
        Kit.due("99 nights on", x.ahead(99, 0), 99 + 200);
        Kit.due("sealed now", x.ahead(0, 1), 0);
        Kit.due("sealed in 1", x.ahead(1, 1), 0);
        Kit.due("sealed in 2", x.ahead(2, 1), 1);
        Kit.due("sealed in 40", x.ahead(40, 1), 1);
        Kit.due("sealed in 41", x.ahead(41, 1), 3);
        Kit.due("overdue in 40", x.ahead(40, 2), 2);
        Kit.due("overdue in 41", x.ahead(41, 2), 3);
        Kit.due("overdue in 99", x.ahead(99, 2), 3);
        Kit.work(x, "seal 1;night;night;");
        Kit.due("what is sealed stays so", x.ahead(0, 1), 3);
        Kit.due("what is overdue stays so", x.ahead(0, 2), 2);
    }

    private static void cheapest() {
        Bounds.sentence(16, "CHEAPEST of a SOUL for K, N, T: of all SLABS of KIND K that LEND N to it that by which a LOAN"
                + " of N from it would OWE least in T NIGHTS");
        CryptBank x = Kit.bank("slab 1 60;slab 1 59;slab 0 60;slab 1 60;soul 1 0;soul 0 0;kin 1 3;");
        Kit.law(x, "left");
        Kit.due("the least left", x.cheapest(0, 1, 1, 1), 1);
        Kit.due("59 are there", x.cheapest(0, 1, 59, 1), 1);
        Kit.due("60 are not", x.cheapest(0, 1, 60, 1), 0);
        Kit.due("of its kind", x.cheapest(0, 0, 60, 40), 2);
        Kit.due("kin alone", x.cheapest(1, 1, 1, 1), 3);
        Kit.work(x, "seal 0;");
        Kit.due("sealed", x.cheapest(0, 1, 60, 1), 3);
        Bounds.sentence(16, "(all else as now, but there are N less under the SLAB, NIGHT T later)");
        CryptBank y = Kit.bank("slab 0 60;slab 0 50;soul 9 0;kin 0 0;");
        Kit.work(y, "night;night;lend 0 1 1 1;");
        // Slab 0 owes 5 where the fact is just so much, and 9 else; slab 1 owes 7.
        String law = "kin*(5+4*(1-least[1,most[0,1-(FACT)*(FACT)]]))+(1-kin)*7";
        String[][] facts = {{"left-20", "left-21"}, {"night-42", "night-41"}, {"nights-40", "nights-39"},
            {"amount-40", "amount-39"}, {"standing-9", "standing-8"}};
        for (String[] fact : facts) {
            Kit.law(y, law.replace("FACT", fact[0]));
            Kit.due("by " + fact[0], y.cheapest(0, 0, 40, 40), 0);
            Kit.law(y, law.replace("FACT", fact[1]));
            Kit.due("by " + fact[1], y.cheapest(0, 0, 40, 40), 1);
        }
        Bounds.sentence(16, "of alike ones the first; NONE");
        CryptBank z = Kit.bank("slab 2 9;slab 1 5;slab 1 5;slab 1 5;soul 1 0;soul 0 0;");
        Kit.law(z, "left");
        Kit.due("of three", z.cheapest(0, 1, 5, 1), 1);
        Kit.due("too much", z.cheapest(0, 1, 6, 1), -1);
        Kit.due("no such kind", z.cheapest(0, 0, 1, 1), -1);
        Kit.due("standing 0", z.cheapest(1, 1, 1, 1), -1);
        Kit.law(z, "999");
        Kit.due("200 for all, and more alike", z.cheapest(0, 1, 1, 1), 1);
        Kit.due("no slabs", Kit.bank("soul 9 9;").cheapest(0, 0, 1, 1), -1);
        Kit.due("eight of another kind", Kit.bank("slab 1 60;".repeat(8) + "soul 9 99;").cheapest(0, 0, 1, 1), -1);
        Kit.work(z, "again 9[lend 0 0 1 9;];");
        Kit.due("nine loans", z.cheapest(0, 1, 1, 1), 1);
        Kit.work(z, "lend 0 1 1 9;");
        Kit.due("ten loans", z.cheapest(0, 1, 1, 1), -1);
    }

    private static void clears() {
        Bounds.sentence(17, "CLEARS of a SOUL: of all sets of its LOANS that OWE now together no more than is in its PURSE"
                + " that of most LOANS");
        CryptBank x = Kit.bank("slab 0 60;soul 9 30;soul 9 99;");
        Kit.due("no loans", x.clears(0), 0);
        Kit.work(x, "lend 1 0 1 9;lend 0 0 10 9;lend 0 0 20 9;");
        Kit.law(x, "amount");
        Kit.due("just as much", x.clears(0), 6);
        Kit.law(x, "amount+amount/20");
        Kit.due("one more", x.clears(0), 2);
        Kit.law(x, "31");
        Kit.due("one more than is there for each", x.clears(0), 0);
        Kit.law(x, "30");
        Kit.due("one", x.clears(0), 2);
        Kit.law(x, "15");
        Kit.due("two", x.clears(0), 6);
        Kit.due("of its own alone", x.clears(1), 1);
        CryptBank empty = Kit.bank("slab 0 60;soul 9 0;");
        Kit.work(empty, "again 10[lend 0 0 1 9;];");
        Kit.due("an empty purse", empty.clears(0), 0);
        Kit.law(empty, "0");
        Kit.due("an empty purse clears what owes nothing", empty.clears(0), 1023);
        Bounds.sentence(17, "of as many that which OWES least, of alike ones the least bits (by numbers of LOANS)");
        CryptBank y = Kit.bank("slab 0 60;soul 9 25;");
        Kit.law(y, "amount");
        Kit.work(y, "lend 0 0 12 9;lend 0 0 11 9;lend 0 0 13 9;lend 0 0 11 9;lend 0 0 12 9;");
        Kit.due("11 and 11", y.clears(0), 2 + 8);
        Kit.law(y, "12");
        Kit.due("alike: the first two", y.clears(0), 3);
        Kit.law(y, "25");
        Kit.due("alike: the first", y.clears(0), 1);
        Kit.law(y, "26-amount");
        Kit.due("14, 15, 13, 15, 14: one alone, 13", y.clears(0), 4);
        Kit.law(y, "amount%2*12+(1-amount%2)*13");
        // 13, 12, 12, 12, 13: the three of 12 in twos; the least bits are those of 1 and 2.
        Kit.due("alike in twos", y.clears(0), 6);
    }

    private static void comes() {
        Bounds.sentence(18, "COMES to n: how many sets of LOANS OWE n together now");
        CryptBank x = Kit.bank("slab 0 60;soul 9 0;soul 9 0;");
        Kit.due("no loans, nothing", x.comes(0), 1);
        Kit.due("no loans, one", x.comes(1), 0);
        Kit.work(x, "again 5[lend 0 0 1 9;lend 1 0 1 9;];");
        Kit.law(x, "0");
        Kit.due("all sets of ten", x.comes(0), 1024);
        Kit.due("none of one", x.comes(1), 0);
        Kit.law(x, "1");
        Kit.due("five of ten", x.comes(5), 252);
        Kit.due("all ten", x.comes(10), 1);
        Kit.due("eleven of ten", x.comes(11), 0);
        Kit.law(x, "999");
        Kit.due("200 each: 800", x.comes(800), 210);
        Kit.due("200 each: 999", x.comes(999), 0);
        CryptBank y = Kit.bank("slab 0 60;soul 9 0;");
        Kit.work(y, "again 4[lend 0 0 4 9;];lend 0 0 5 9;");
        Kit.law(y, "amount*50-(amount-4)*51");
        Kit.due("200, 200, 200, 200 and 199 are 999", y.comes(999), 1);
        Kit.due("not 998", y.comes(998), 0);
    }

    private static void servesAre(CryptBank x, String book, int lines, int together, int... slabs) {
        Kit.due("lines of " + book, Kit.book(x, book), slabs.length);
        Kit.due("served of " + book, x.serves(0), lines);
        Kit.due("together of " + book, x.serves(1), together);
        for (int line = 0; line < slabs.length; line++) {
            Kit.due("line " + line + " of " + book, x.served(line), slabs[line]);
        }
    }

    private static void serves() {
        Bounds.sentence(19, "SERVES by BOOK: all ways to give lines each one SLAB that LENDS to its SOUL (as now, LOANS not"
                + " counted), of its KIND, or none");
        CryptBank x = Kit.bank("slab 0 10;slab 1 10;soul 1 0;soul 0 0;kin 1 1;");
        servesAre(x, "", 0, 0);
        servesAre(x, "0 0 10;0 1 10;", 2, 20, 0, 1);
        servesAre(x, "0 2 1;0 5 1;", 0, 0, -1, -1);
        servesAre(x, "1 0 1;1 1 1;", 1, 1, -1, 1);
        Kit.work(x, "seal 0;");
        servesAre(x, "0 0 1;0 1 1;", 1, 1, -1, 1);
        CryptBank ten = Kit.bank("slab 0 60;soul 1 0;");
        Kit.work(ten, "again 10[lend 0 0 1 9;];");
        Kit.due("ten loans: it lends nothing", ten.lends(0, 0, 1), false);
        servesAre(ten, "0 0 50;", 1, 50, 0);
        servesAre(ten, "0 0 51;", 0, 0, -1);
        servesAre(new CryptBank(), "", 0, 0);
        servesAre(Kit.bank("soul 9 9;"), "0 0 1;", 0, 0, -1);
        Bounds.sentence(19, "all lines of a SLAB together no more than there is under it: that by which most lines are"
                + " served");
        CryptBank y = Kit.bank("slab 0 10;soul 1 0;");
        servesAre(y, "0 0 4;0 0 6;", 2, 10, 0, 0);
        servesAre(y, "0 0 5;0 0 6;", 1, 6, -1, 0);
        servesAre(y, "0 0 10;0 0 1;0 0 2;", 2, 3, -1, 0, 0);
        servesAre(y, "0 0 1;0 0 1;0 0 2;0 0 2;0 0 2;0 0 2;", 6, 10, 0, 0, 0, 0, 0, 0);
        servesAre(y, "0 0 1;0 0 2;0 0 2;0 0 2;0 0 2;0 0 2;", 5, 10, -1, 0, 0, 0, 0, 0);
        servesAre(Kit.bank("slab 0 0;soul 1 0;"), "0 0 1;", 0, 0, -1);
        Bounds.sentence(19, "of as many that by which N of these together is most");
        servesAre(y, "0 0 7;0 0 8;0 0 9;", 1, 9, -1, -1, 0);
        servesAre(y, "0 0 3;0 0 4;0 0 6;", 2, 10, -1, 0, 0);
        Bounds.sentence(19, "0 how many lines, 1 N of these together");
        CryptBank most = Kit.bank("slab 0 60;".repeat(8) + "soul 1 0;");
        servesAre(most, "0 0 60;".repeat(6), 6, 360, 0, 1, 2, 3, 4, 5);
        Kit.due("asked once more", most.serves(0), 6);
        Kit.county(most, "slab 0 60;soul 1 0;");
        servesAre(most, "0 0 60;".repeat(6), 1, 60, 0, -1, -1, -1, -1, -1);
        Kit.county(most, "soul 1 0;");
        servesAre(most, "0 0 60;".repeat(6), 0, 0, -1, -1, -1, -1, -1, -1);
    }

    private static void served() {
        Bounds.sentence(20, "of alike ones the first (line by line the least SLAB, none last)");
        CryptBank x = Kit.bank("slab 0 10;slab 0 10;slab 0 10;soul 1 0;");
        servesAre(x, "0 0 5;0 0 5;0 0 5;", 3, 15, 0, 0, 1);
        servesAre(x, "0 0 6;0 0 6;0 0 4;", 3, 16, 0, 1, 0);
        servesAre(x, "0 0 10;0 0 10;0 0 10;0 0 10;", 3, 30, 0, 1, 2, -1);
        Kit.work(x, "seal 0;seal 2;");
        servesAre(x, "0 0 10;0 0 10;", 1, 10, 1, -1);
        Bounds.sentence(20, "The SLAB of a line by SERVES; NONE");
        servesAre(x, "0 0 9;0 0 10;", 1, 10, -1, 1);
        CryptBank last = Kit.bank("slab 1 60;".repeat(7) + "slab 0 1;soul 1 0;");
        servesAre(last, "0 0 2;0 0 1;", 1, 1, -1, 7);
        Bounds.sentence(20, "NoSuchElementException: no such line");
        CryptBank none = Kit.bank("slab 0 1;soul 1 0;");
        Kit.noSuch("without lines", () -> none.served(0));
        Kit.book(none, "0 0 1;".repeat(6));
        Kit.due("the last of six", none.served(5), -1);
        Kit.noSuch("a seventh", () -> none.served(6));
        Kit.noSuch("line -1", () -> none.served(-1));
    }

    private static void callsAre(CryptBank x, String book, int kind, int least) {
        Kit.book(x, book);
        Kit.due("call(" + kind + ") by " + book, x.call(kind), least);
    }

    private static void call() {
        Bounds.sentence(21, "CALL for a KIND: the least M (0 to 99) by which, were there a SLAB more, not SEALED, of that"
                + " KIND with M under it, the last by number, that LENDS to all SOULS, all lines were served; NONE");
        CryptBank x = Kit.bank("slab 0 10;soul 1 0;soul 0 0;");
        callsAre(x, "", 0, 0);
        callsAre(x, "", 5, 0);
        callsAre(x, "0 0 10;", 0, 0);
        callsAre(x, "0 0 10;", 3, 0);
        callsAre(x, "0 0 10;0 0 1;", 0, 1);
        callsAre(x, "0 0 11;", 0, 11);
        callsAre(x, "0 3 60;0 3 38;", 3, 98);
        callsAre(x, "0 3 60;0 3 39;", 3, 99);
        callsAre(x, "0 3 60;0 3 40;", 3, -1);
        callsAre(x, "1 5 1;", 5, 1);
        callsAre(x, "1 0 10;0 0 10;", 0, 10);
        callsAre(x, "1 0 1;0 3 1;", 0, -1);
        callsAre(x, "1 0 1;0 3 1;", 3, -1);
        callsAre(x, "0 0 6;0 0 5;0 0 4;", 0, 5);
        Kit.work(x, "seal 0;");
        callsAre(x, "0 0 10;", 0, 10);
        callsAre(x, "0 0 10;", 3, -1);
        CryptBank eight = Kit.bank("slab 0 1;".repeat(8) + "soul 1 0;");
        callsAre(eight, "0 0 1;".repeat(6), 0, 0);
        callsAre(eight, "0 0 2;".repeat(6), 0, 12);
        callsAre(eight, "0 0 60;0 0 39;0 0 1;0 0 1;", 0, 99);
        CryptBank ten = Kit.bank("slab 0 60;soul 1 0;");
        Kit.work(ten, "again 10[lend 0 0 1 9;];");
        callsAre(ten, "0 0 50;", 0, 0);
        callsAre(ten, "0 0 50;0 0 3;", 0, 3);
    }

    private static void run() {
        Bounds.sentence(22, "RUN on a SLAB: SOULS come in all orders, each wants what is half of its PURSE (cut, 1 at least)"
                + " from under it");
        int[] purses = {0, 1, 2, 3, 4, 5, 98, 99};
        int[] wants = {1, 1, 1, 1, 2, 2, 49, 49};
        for (int i = 0; i < purses.length; i++) {
            CryptBank x = Kit.bank("slab 0 " + wants[i] + ";slab 0 " + (wants[i] - 1) + ";soul 1 " + purses[i] + ";");
            Kit.due("purse " + purses[i] + ", just as much", x.run(0, 0), 0);
            Kit.due("purse " + purses[i] + ", one less", x.run(1, 0), 1);
        }
        Bounds.sentence(22, "and takes it, if there is as much or more (SEALED or not, STANDING not asked)");
        CryptBank y = Kit.bank("slab 0 10;slab 0 11;slab 0 9;soul 0 20;soul 0 2;");
        // Wanted: 10 and 1.
        Kit.due("10, the great one behind the small one", y.run(0, 0), 1);
        Kit.due("10, the small one behind the great one", y.run(0, 1), 1);
        Kit.due("11, the great one", y.run(1, 0), 0);
        Kit.due("11, the small one", y.run(1, 1), 0);
        Kit.due("9, the great one never", y.run(2, 0), 2);
        Kit.due("9, the small one always", y.run(2, 1), 0);
        Kit.work(y, "seal 0;seal 1;seal 2;");
        Kit.due("sealed, 10", y.run(0, 0), 1);
        Kit.due("sealed, 11", y.run(1, 0), 0);
        Bounds.sentence(22, "in how many orders a told SOUL gets nothing");
        for (int under = 0; under <= 7; under++) {
            CryptBank six = Kit.bank("slab 0 " + under + ";" + "soul 0 0;".repeat(6));
            for (int soul = 0; soul < 6; soul += 5) {
                Kit.due("six for " + under, six.run(0, soul), 120 * Math.max(0, 6 - under));
            }
        }
        CryptBank earned = Kit.bank("slab 0 60;soul 0 99;");
        Kit.work(earned, "earn 0 22;");
        Kit.due("60 of 121", earned.run(0, 0), 0);
        Kit.work(earned, "earn 0 1;");
        Kit.due("61 of 122", earned.run(0, 0), 1);
    }

    private static void fraction(int n, int k, int q, long above, long below) {
        CryptBank x = new CryptBank();
        Kit.due("above: " + n + ", " + k + ", " + q, x.all(n, k, q, 0), above);
        Kit.due("below: " + n + ", " + k + ", " + q, x.all(n, k, q, 1), below);
    }

    private static void all12() {
        Bounds.sentence(23, "ALL of n, k, q: of n LOANS each is brought back by q of 16, each by itself: how likely k or more"
                + " are");
        fraction(0, 0, 0, 1, 1);
        fraction(0, 0, 16, 1, 1);
        fraction(0, 1, 16, 0, 1);
        fraction(0, 13, 16, 0, 1);
        fraction(1, 0, 0, 1, 1);
        fraction(1, 1, 0, 0, 1);
        fraction(1, 1, 1, 1, 16);
        fraction(1, 1, 15, 15, 16);
        fraction(1, 1, 16, 1, 1);
        fraction(1, 2, 16, 0, 1);
        fraction(12, 12, 16, 1, 1);
        fraction(12, 13, 16, 0, 1);
        fraction(12, 12, 0, 0, 1);
        fraction(12, 0, 0, 1, 1);
        fraction(12, 0, 7, 1, 1);
        Bounds.sentence(23, "above (part 0), below (part 1), in least terms");
        fraction(2, 1, 8, 3, 4);
        fraction(1, 1, 8, 1, 2);
        fraction(1, 1, 2, 1, 8);
        // 16 to the 12th is 2 to the 48th: more than 32 bits hold.
        fraction(12, 12, 1, 1, 1L << 48);
        fraction(12, 1, 15, (1L << 48) - 1, 1L << 48);
        fraction(12, 12, 8, 1, 1L << 12);
        fraction(12, 6, 8, 1255, 2048);
        fraction(12, 12, 15, 129746337890625L, 1L << 48);
        fraction(11, 11, 15, 8649755859375L, 1L << 44);
    }

    private static void saint() {
        Bounds.sentence(24, "SAINT by v, w: each of two gives, or lends: both give: each has v; both lend: each has w; one"
                + " gives, one lends: who gives has 0, who lends has v and w; RESTS: neither would have more by the other"
                + " thing");
        CryptBank x = new CryptBank();
        int[][] games = {{0, 0, 4, 0, 0}, {0, 1, 1, 11, 2}, {1, 0, 4, 0, 2}, {1, 1, 1, 11, 2}, {99, 0, 4, 0, 198},
            {0, 99, 1, 11, 198}, {99, 99, 1, 11, 198}, {99, 1, 1, 11, 2}, {98, 98, 1, 11, 196}};
        for (int[] game : games) {
            for (int what = 0; what <= 2; what++) {
                Kit.due("saint(" + game[0] + ", " + game[1] + ", " + what + ")", x.saint(game[0], game[1], what),
                        game[2 + what]);
            }
        }
    }

    private static void candles() {
        Bounds.sentence(25, "CANDLES of n among told SOULS (bits) by PURSE: levelled: no more than that each, no more than a"
                + " bound, the greatest by which no more than n are given (all, if they are no more)");
        CryptBank x = Kit.bank("soul 0 5;soul 0 30;soul 0 99;soul 0 0;");
        int[] n = {0, 2, 3, 14, 15, 16, 17, 64, 65, 66, 132, 133, 134, 135, 999};
        int[] first = {0, 0, 1, 4, 5, 5, 5, 5, 5, 5, 5, 5, 5, 5, 5};
        int[] second = {0, 0, 1, 4, 5, 5, 6, 29, 30, 30, 30, 30, 30, 30, 30};
        int[] third = {0, 0, 1, 4, 5, 5, 6, 29, 30, 31, 97, 98, 99, 99, 99};
        for (int i = 0; i < n.length; i++) {
            Kit.due("purse 5 of " + n[i], x.candles(0, 15, n[i]), first[i]);
            Kit.due("purse 30 of " + n[i], x.candles(1, 15, n[i]), second[i]);
            Kit.due("purse 99 of " + n[i], x.candles(2, 15, n[i]), third[i]);
            Kit.due("purse 0 of " + n[i], x.candles(3, 15, n[i]), 0);
        }
        CryptBank rich = Kit.bank("soul 0 99;".repeat(6));
        Kit.work(rich, "again 4[earn 0 60;earn 1 60;earn 2 60;earn 3 60;earn 4 60;earn 5 60;];");
        Kit.due("999 among 1800", rich.candles(5, 63, 999), 166);
        Kit.due("600 among two of 300", rich.candles(5, 33, 600), 300);
        Kit.due("599 among two of 300", rich.candles(5, 33, 599), 299);
        Kit.due("300 for one of 300", rich.candles(0, 1, 300), 300);
        Kit.due("301 for one of 300", rich.candles(0, 1, 301), 300);
        Bounds.sentence(25, "(0, if it is none of them)");
        Kit.due("not among those told", x.candles(1, 13, 999), 0);
        Kit.due("among none", x.candles(1, 0, 999), 0);
        Bounds.sentence(25, "IllegalArgumentException: bits of no SOULS");
        for (int souls : new int[] {-1, 16, 31, 1 << 30, Integer.MIN_VALUE, Integer.MAX_VALUE}) {
            Kit.illegal("four souls, bits " + souls, () -> x.candles(0, souls, 0));
        }
        Kit.due("four souls, bits 15", x.candles(0, 15, 999), 5);
        Kit.due("six souls, bits 63", rich.candles(0, 63, 0), 0);
        Kit.illegal("six souls, bits 64", () -> rich.candles(0, 64, 0));
        CryptBank one = Kit.bank("soul 0 5;");
        Kit.due("one soul, bits 1", one.candles(0, 1, 9), 5);
        Kit.illegal("one soul, bits 2", () -> one.candles(0, 2, 9));
        Kit.noSuch("no soul, whatever the bits", () -> new CryptBank().candles(0, 0, 0));
    }

    private static void richest() {
        Bounds.sentence(26, "The SLAB with most under it (what 0), of alike ones the first, how much (1)");
        CryptBank x = Kit.bank("slab 0 59;slab 0 60;slab 0 60;soul 9 99;");
        Kit.due("of two", x.richest(0), 1);
        Kit.due("how much", x.richest(1), 60);
        Kit.work(x, "lend 0 1 1 9;");
        Kit.due("one less", x.richest(0), 2);
        Kit.work(x, "lend 0 2 1 9;");
        Kit.due("all alike", x.richest(0), 0);
        Kit.due("all alike", x.richest(1), 59);
        Kit.law(x, "99");
        Kit.work(x, "pay 1;");
        Kit.due("99 at most", x.richest(1), 99);
        Kit.due("the last", x.richest(0), 2);
        CryptBank empty = Kit.bank("slab 0 0;slab 0 0;");
        Kit.due("nothing under any", empty.richest(0), 0);
        Kit.due("nothing", empty.richest(1), 0);
        Bounds.sentence(26, "NONE both: there are no SLABS");
        CryptBank none = Kit.bank("soul 9 9;");
        Kit.due("which", none.richest(0), -1);
        Kit.due("how much", none.richest(1), -1);
    }

    private static void next() {
        Bounds.sentence(27, "The LOAN that is DUE next, not OVERDUE (what 0), of alike ones the first, in how many NIGHTS (1)");
        CryptBank x = Kit.bank("slab 0 60;slab 0 60;soul 9 99;");
        Kit.work(x, "lend 0 0 1 40;lend 0 0 1 2;lend 0 1 1 2;lend 0 1 1 1;");
        int[][] due = {{3, 1}, {3, 0}, {1, 0}, {0, 37}};
        for (int night = 0; night < due.length; night++) {
            Kit.due("which, in night " + night, x.next(0), due[night][0]);
            Kit.due("in how many, in night " + night, x.next(1), due[night][1]);
            Kit.work(x, "night;");
        }
        Kit.work(x, "again 30[night;];again 6[night;];");
        Kit.due("due in night 40, in night 40", x.told(3), 40);
        Kit.due("which", x.next(0), 0);
        Kit.due("in how many", x.next(1), 0);
        Bounds.sentence(27, "NONE both: there is none");
        Kit.work(x, "night;");
        Kit.due("all are overdue: which", x.next(0), -1);
        Kit.due("all are overdue: in how many", x.next(1), -1);
        CryptBank none = new CryptBank();
        Kit.due("no loans: which", none.next(0), -1);
        Kit.due("no loans: in how many", none.next(1), -1);
    }

    private static void shut() {
        Bounds.sentence(28, "SOULS (bits) to whom no SLAB LENDS 1 now");
        Kit.due("no souls", Kit.bank("slab 0 1;").shut(), 0);
        Kit.due("no slabs", Kit.bank("soul 9 99;".repeat(6)).shut(), 63);
        Kit.due("1 under one", Kit.bank("slab 0 0;slab 0 1;soul 1 0;soul 0 0;").shut(), 2);
        Kit.due("0 under all", Kit.bank("slab 0 0;slab 0 0;soul 1 0;soul 0 0;kin 1 1;").shut(), 3);
        Kit.due("standing 0, kin", Kit.bank("slab 0 0;slab 0 1;soul 0 0;soul 0 0;kin 0 0;kin 1 1;").shut(), 1);
        CryptBank eight = Kit.bank("slab 0 1;".repeat(8) + "soul 9 99;".repeat(6));
        Kit.due("eight slabs, six souls", eight.shut(), 0);
        Kit.work(eight, "lend 0 0 1 9;seal 0;seal 1;seal 2;seal 3;seal 4;seal 5;seal 6;");
        Kit.due("one of eight is open", eight.shut(), 0);
        Kit.work(eight, "seal 7;");
        Kit.due("none of eight is open", eight.shut(), 63);
        CryptBank x = Kit.bank("slab 0 60;slab 0 1;soul 1 0;soul 1 0;");
        Kit.work(x, "seal 0;");
        Kit.due("one is sealed", x.shut(), 0);
        Kit.work(x, "seal 1;");
        Kit.due("both are sealed", x.shut(), 3);
        Kit.work(x, "open 0;again 9[lend 0 0 1 9;];");
        Kit.due("nine loans", x.shut(), 0);
        Kit.work(x, "lend 0 0 1 9;");
        Kit.due("ten loans", x.shut(), 3);
    }

    private static void kind() {
        Bounds.sentence(29, "What is under all SLABS of a KIND (0 to 5) together (what 0), what was lent of it (N of its LOANS"
                + " together; 1)");
        CryptBank x = Kit.bank("slab 0 60;slab 5 60;slab 5 59;soul 9 99;");
        Kit.due("kind 0", x.kind(0, 0), 60);
        Kit.due("kind 5", x.kind(5, 0), 119);
        Kit.due("kind 4, of which there is none", x.kind(4, 0), 0);
        Kit.due("nothing lent", x.kind(5, 1), 0);
        Kit.work(x, "lend 0 1 60 9;lend 0 2 59 9;lend 0 0 1 9;");
        Kit.due("nothing left", x.kind(5, 0), 0);
        Kit.due("all lent", x.kind(5, 1), 119);
        Kit.due("one lent", x.kind(0, 1), 1);
        Kit.due("none lent of none", x.kind(4, 1), 0);
        Kit.work(x, "pay 2;");
        Kit.due("paid back", x.kind(0, 1), 0);
        Kit.due("with two", x.kind(0, 0), 61);
        Kit.due("no slabs", new CryptBank().kind(0, 0), 0);
        Kit.due("eight slabs", Kit.bank("slab 0 60;".repeat(8) + "soul 9 99;").kind(0, 0), 480);
    }

    private static void worth() {
        Bounds.sentence(30, "What is in the PURSE of a SOUL, less what it OWES in all now (below 0, too)");
        CryptBank x = Kit.bank("slab 0 60;soul 9 5;soul 9 99;");
        Kit.due("no loans", x.worth(0), 5);
        Kit.work(x, "lend 0 0 1 9;");
        Kit.law(x, "4");
        Kit.due("one above", x.worth(0), 1);
        Kit.law(x, "5");
        Kit.due("nothing", x.worth(0), 0);
        Kit.law(x, "6");
        Kit.due("one below", x.worth(0), -1);
        Kit.due("the other", x.worth(1), 99);
        Kit.work(x, "again 9[lend 0 0 1 9;];");
        Kit.law(x, "200");
        Kit.due("ten of 200", x.worth(0), 5 - 2000);
        CryptBank rich = Kit.bank("soul 0 99;");
        Kit.work(rich, "again 4[earn 0 60;];");
        Kit.due("300", rich.worth(0), 300);
    }

    private static void broke() {
        Bounds.sentence(31, "In how many NIGHTS (0 to 99), nothing else being done, a SOUL OWES more in all than is in its"
                + " PURSE the first time");
        CryptBank x = Kit.bank("slab 0 60;soul 9 5;soul 9 0;");
        Kit.work(x, "lend 0 0 1 1;");
        Kit.law(x, "5");
        Kit.due("no more than is there", x.broke(0), -1);
        Kit.law(x, "6");
        Kit.due("one more", x.broke(0), 0);
        Kit.law(x, "nights");
        Kit.due("one more a night", x.broke(0), 6);
        Kit.law(x, "nights-92");
        Kit.due("in the 98th", x.broke(0), 98);
        Kit.law(x, "nights-93");
        Kit.due("in the 99th", x.broke(0), 99);
        Kit.law(x, "(9-standing)*6");
        Kit.due("in the night in which it is overdue", x.broke(0), 2);
        Kit.law(x, "(5-nights)*nights");
        Kit.due("the first time, though less again then", x.broke(0), 2);
        Bounds.sentence(31, "; NONE");
        Kit.law(x, "nights-94");
        Kit.due("in the 100th", x.broke(0), -1);
        Kit.due("without loans, by an empty purse", x.broke(1), -1);
    }

    private static void late() {
        Bounds.sentence(32, "LOANS (bits) of a SOUL that are OVERDUE (what 0), that are not (1)");
        CryptBank x = Kit.bank("slab 0 60;slab 0 60;soul 9 5;soul 9 0;");
        Kit.due("no loans", x.late(0, 0) + x.late(0, 1), 0);
        Kit.work(x, "again 5[lend 0 0 1 1;lend 1 1 1 2;];night;");
        Kit.due("none is overdue", x.late(0, 0), 0);
        Kit.due("every other", x.late(0, 1), 341);
        Kit.work(x, "night;");
        Kit.due("all of 0 are", x.late(0, 0), 341);
        Kit.due("none of 0 is not", x.late(0, 1), 0);
        Kit.due("none of 1 is", x.late(1, 0), 0);
        Kit.due("all of 1 are not", x.late(1, 1), 682);
        Kit.work(x, "night;");
        Kit.due("all of 1 are", x.late(1, 0), 682);
    }

    private static void trust() {
        Bounds.sentence(33, "SOULS (bits) to whom a SLAB LENDS n (1 to 60) now");
        CryptBank x = Kit.bank("slab 0 60;slab 0 1;soul 1 9;soul 0 9;soul 0 9;soul 9 9;soul 0 9;soul 1 9;kin 1 0;kin 4 1;");
        Kit.due("60 of 60", x.trust(0, 60), 1 + 2 + 8 + 32);
        Kit.due("1 of 1", x.trust(1, 1), 1 + 8 + 16 + 32);
        Kit.due("2 of 1", x.trust(1, 2), 0);
        Kit.work(x, "seal 1;lend 0 0 1 9;");
        Kit.due("sealed", x.trust(1, 1), 0);
        Kit.due("59 of 59", x.trust(0, 59), 43);
        Kit.due("60 of 59", x.trust(0, 60), 0);
        Kit.work(x, "again 9[lend 0 0 1 9;];");
        Kit.due("ten loans", x.trust(0, 1), 0);
        Kit.due("no souls", Kit.bank("slab 0 60;").trust(0, 1), 0);
        Kit.due("eight slabs, six souls", Kit.bank("slab 0 60;".repeat(8) + "soul 1 9;".repeat(6)).trust(7, 60), 63);
    }

    private static void deepest() {
        Bounds.sentence(34, "The LOAN that OWES most now (what 0), of alike ones the first, how much (1)");
        CryptBank x = Kit.bank("slab 0 60;soul 9 99;");
        Kit.work(x, "lend 0 0 1 9;lend 0 0 3 9;lend 0 0 2 9;lend 0 0 3 9;");
        Kit.law(x, "amount");
        Kit.due("of two", x.deepest(0), 1);
        Kit.due("how much", x.deepest(1), 3);
        Kit.law(x, "0-amount");
        Kit.due("0 for all", x.deepest(0), 0);
        Kit.due("0", x.deepest(1), 0);
        Kit.law(x, "198+amount");
        Kit.due("200 at most: the third is as deep as the second", x.deepest(0), 1);
        Kit.due("200", x.deepest(1), 200);
        Kit.law(x, "200-amount");
        Kit.due("the first", x.deepest(0), 0);
        Kit.due("199", x.deepest(1), 199);
        Bounds.sentence(34, "NONE both: there are none");
        CryptBank none = Kit.bank("slab 0 60;soul 9 99;");
        Kit.due("which", none.deepest(0), -1);
        Kit.due("how much", none.deepest(1), -1);
    }

    private static void poorest() {
        Bounds.sentence(35, "The SOUL of least PURSE (what 0), of alike ones the first, how much (1)");
        CryptBank x = Kit.bank("soul 9 99;soul 0 98;soul 0 98;");
        Kit.due("of two", x.poorest(0), 1);
        Kit.due("how much", x.poorest(1), 98);
        Kit.work(x, "earn 1 1;");
        Kit.due("one more", x.poorest(0), 2);
        Kit.work(x, "earn 2 1;");
        Kit.due("all alike", x.poorest(0), 0);
        Kit.work(x, "again 4[earn 0 60;earn 1 60;earn 2 60;];");
        Kit.due("all have 300", x.poorest(1), 300);
        Kit.due("all have 300", x.poorest(0), 0);
        CryptBank empty = Kit.bank("soul 9 1;soul 9 0;soul 9 0;");
        Kit.due("an empty purse", empty.poorest(0), 1);
        Kit.due("nothing", empty.poorest(1), 0);
        Bounds.sentence(35, "NONE both: there are none");
        CryptBank none = Kit.bank("slab 0 1;");
        Kit.due("which", none.poorest(0), -1);
        Kit.due("how much", none.poorest(1), -1);
    }

    /** DRAWS by the document's words, with numbers that can't wrap. */
    private static int[] drawn(int seed, int... by) {
        long state = seed & 0xffffffffL;
        int[] draws = new int[by.length];
        for (int i = 0; i < by.length; i++) {
            state = (state * 1103515245L + 12345L) % (1L << 32);
            draws[i] = (int) (state / 65536 % 32768 % by[i]);
        }
        return draws;
    }

    /** The least SEED from 0 on whose draw at this place of a night is such; one SOUL, one SLAB. */
    private static int seedOf(int place, int value) {
        for (int seed = 0; seed < 10000; seed++) {
            if (drawn(seed, 1, 1, 20, 9, 16)[place] == value) {
                return seed;
            }
        }
        throw new IllegalStateException("no such seed");
    }

    private static void winter() {
        Bounds.sentence(36, "A WINTER by a SEED: for so many NIGHTS: DRAW by how many SOULS, by how many SLABS, by 20, N less"
                + " 1, by 9, T less 1: lend (if it can be done)");
        for (int n : new int[] {1, 2, 19, 20}) {
            int seed = seedOf(2, n - 1);
            CryptBank x = Kit.bank("slab 0 20;soul 9 99;");
            Kit.due("N " + n, x.winter(seed, 0, 1, 1), 20 - n);
            CryptBank just = Kit.bank("slab 0 " + n + ";soul 9 99;");
            Kit.due("just so much is there", just.winter(seed, 0, 1, 0), 1);
            CryptBank less = Kit.bank("slab 0 " + (n - 1) + ";soul 9 99;");
            Kit.due("one less is there", less.winter(seed, 0, 1, 0), 0);
        }
        for (int t : new int[] {1, 2, 8, 9}) {
            int seed = seedOf(3, t - 1);
            int n = drawn(seed, 1, 1, 20)[2] + 1;
            // What is there is lent in the first night, so no other loan comes.
            CryptBank x = Kit.bank("slab 0 " + n + ";soul 9 99;");
            Kit.due("T " + t + ", in the night in which it is due", x.winter(seed, 0, t, 2), 0);
            Kit.due("T " + t + ", a night later", x.winter(seed, 0, t + 1, 2), 1);
        }
        for (int seed = 0; seed < 24; seed++) {
            int[] draws = drawn(seed, 6, 8, 20, 9);
            StringBuilder county = new StringBuilder();
            for (int soul = 0; soul < 6; soul++) {
                county.append("soul 0 9;");
            }
            for (int slab = 0; slab < 8; slab++) {
                county.append("slab 0 20;");
            }
            CryptBank shut = Kit.bank(county.toString());
            Kit.due("none of standing 0", shut.winter(seed, 0, 1, 0), 0);
            CryptBank kin = Kit.bank(county + "kin " + draws[0] + " " + draws[1] + ";");
            Kit.due("but the soul and the slab drawn, who are kin", kin.winter(seed, 0, 1, 0), 1);
        }
        Bounds.sentence(36, "DRAW by 16 below Q: pay 0 (if it can); then night");
        for (int draw : new int[] {0, 1, 14, 15}) {
            int seed = seedOf(4, draw);
            CryptBank x = Kit.bank("slab 0 20;soul 9 99;");
            Kit.due("draw " + draw + ", Q as much", x.winter(seed, draw, 1, 3), 0);
            Kit.due("draw " + draw + ", Q one more", x.winter(seed, draw + 1, 1, 3), 1);
            CryptBank poor = Kit.bank("slab 0 20;soul 9 0;");
            Kit.due("draw " + draw + ", it can't be paid", poor.winter(seed, 16, 1, 3), 0);
        }
        CryptBank many = Kit.bank("slab 0 60;slab 0 60;soul 9 99;");
        Kit.law(many, "0");
        Kit.due("Q 0: none is paid", many.winter(5, 0, 96, 3), 0);
        Kit.due("Q 16: each is paid at once", many.winter(5, 16, 96, 0), 0);
        // In the night in which a loan was taken it owes nothing; the night goes by behind the pay.
        Kit.law(many, "nights*200");
        Kit.due("pay goes ahead of night", many.winter(5, 16, 1, 3), 1);
        CryptBank ten = Kit.bank("slab 0 60;soul 9 99;");
        Kit.work(ten, "again 10[lend 0 0 1 40;];");
        Kit.due("ten loans: no more", ten.winter(0, 0, 9, 0), 10);
        Kit.due("nothing more is lent", ten.winter(0, 0, 9, 1), 50);
        Kit.due("the first is paid", ten.winter(0, 16, 1, 3), 1);
    }

    private static void winterWithout() {
        Bounds.sentence(36, "Without SOULS or SLABS nothing is DRAWN, NIGHTS go by");
        CryptBank slabs = Kit.bank("slab 0 60;slab 0 5;");
        Kit.work(slabs, "seal 1;");
        Kit.due("no souls: loans", slabs.winter(1, 16, 96, 0), 0);
        Kit.due("no souls: under all", slabs.winter(1, 16, 96, 1), 65);
        Kit.due("no souls: sealed", slabs.winter(1, 16, 96, 2), 2);
        Kit.due("no souls: paid", slabs.winter(1, 16, 96, 3), 0);
        Kit.illegal("no souls: span", () -> slabs.span(1, 1, 0, 1, 0, 0));
        CryptBank souls = Kit.bank("soul 0 60;soul 1 5;");
        for (int what = 0; what <= 3; what++) {
            Kit.due("no slabs: winter " + what, souls.winter(1, 16, 96, what), 0);
        }
        Kit.due("no slabs: span 0", souls.span(1, 20, 16, 96, 0, 1), 0);
        Kit.due("no slabs: span 1", souls.span(1, 20, 16, 96, 1, 1), 0);
        Kit.due("no slabs: span 2, standing 0", souls.span(1, 20, 16, 96, 2, 0), 20);
        Kit.due("no slabs: span 2, standing 1", souls.span(1, 20, 16, 96, 2, 1), 0);
        for (int what = 0; what <= 3; what++) {
            Kit.due("neither: winter " + what, new CryptBank().winter(1, 16, 96, what), 0);
        }
    }

    private static void draw() {
        Bounds.sentence(36, "DRAW: the SEED (32 bits) becomes itself times 1,103,515,245, and 12,345 (it wraps); its bits 16 to"
                + " 30, what is left of them");
        CryptBank x = Kit.bank("slab 0 60;soul 9 99;");
        Kit.law(x, "0");
        int[] seeds = {0, 1, -1, 2, Integer.MAX_VALUE, Integer.MIN_VALUE, Integer.MIN_VALUE + 1, 65535, 65536, 1 << 30};
        for (int seed : seeds) {
            Kit.due("N by seed " + seed, x.winter(seed, 0, 1, 1), 60 - (drawn(seed, 1, 1, 20)[2] + 1));
            Kit.due("paid by seed " + seed, x.winter(seed, 8, 1, 3), drawn(seed, 1, 1, 20, 9, 16)[4] < 8 ? 1 : 0);
            int[] two = drawn(seed, 1, 1, 20, 9, 16, 1, 1, 20);
            Kit.due("two nights by seed " + seed, x.winter(seed, 0, 2, 1), 60 - (two[2] + 1) - (two[7] + 1));
        }
        int[] wanted = {0, 21468, 9988, 22117, 3498};
        Kit.due("drawn by seed 0: " + Arrays.toString(wanted),
                Arrays.equals(drawn(0, 32768, 32768, 32768, 32768, 32768), wanted), true);
    }

    private static void winterAnswers() {
        Bounds.sentence(36, "0 LOANS then, 1 what is under all SLABS then, 2 SLABS that are SEALED then (bits), 3 LOANS that were"
                + " paid in it");
        CryptBank x = Kit.bank("slab 0 60;".repeat(8) + "soul 9 99;".repeat(6));
        Kit.due("96 nights: ten loans at most", x.winter(3, 0, 96, 0), 10);
        Kit.law(x, "0");
        Kit.work(x, "lend 0 0 1 40;pay 0;lend 0 0 1 40;");
        Kit.due("paid by now", x.told(11), 1);
        Kit.due("paid in it alone", x.winter(3, 0, 96, 3), 0);
        Kit.work(x, "seal 0;seal 1;seal 2;seal 3;seal 4;seal 5;seal 6;seal 7;");
        Kit.due("sealed ahead of it", x.winter(3, 0, 96, 2), 255);
        Kit.due("so nothing is lent", x.winter(3, 0, 96, 0), 1);
        Kit.due("and nothing goes", x.winter(3, 0, 96, 1), 478);
        Kit.due("the one is paid", x.winter(3, 16, 96, 3), 1);
        Kit.due("none is left", x.winter(3, 16, 96, 0), 0);
    }

    private static void span() {
        Bounds.sentence(37, "Of so many SEEDS (1 to 20; seed, seed and 1, ..): 0 the least under all SLABS then, 1 the most, 2 by"
                + " how many STANDING of a SOUL is 0 then");
        CryptBank x = Kit.bank("slab 0 20;soul 1 99;soul 9 99;");
        int[] first = {0, 7, -1, -10, Integer.MAX_VALUE, Integer.MAX_VALUE - 19, Integer.MIN_VALUE};
        for (int seed : first) {
            for (int many : new int[] {1, 2, 19, 20}) {
                int least = Integer.MAX_VALUE;
                int most = Integer.MIN_VALUE;
                for (int i = 0; i < many; i++) {
                    // One night: what is lent is what is drawn; beyond the greatest seed it wraps.
                    int under = 20 - (drawn(seed + i, 2, 1, 20)[2] + 1);
                    least = Math.min(least, under);
                    most = Math.max(most, under);
                }
                Kit.due("least of " + many + " from " + seed, x.span(seed, many, 0, 1, 0, 0), least);
                Kit.due("most of " + many + " from " + seed, x.span(seed, many, 0, 1, 1, 1), most);
            }
        }
        CryptBank none = Kit.bank("slab 0 0;soul 0 0;soul 1 0;");
        Kit.due("standing 0 as now", none.span(0, 20, 0, 1, 2, 0), 20);
        Kit.due("standing 1 as now", none.span(0, 20, 0, 96, 2, 1), 0);
        Kit.due("of one seed", none.span(0, 1, 0, 1, 2, 0), 1);
        CryptBank owing = Kit.bank("slab 0 1;soul 1 0;soul 2 0;");
        Kit.work(owing, "lend 0 0 1 1;");
        Kit.due("not yet overdue", owing.span(0, 20, 0, 1, 2, 0), 0);
        Kit.due("overdue", owing.span(0, 20, 0, 2, 2, 0), 20);
        Kit.due("the other", owing.span(0, 20, 0, 2, 2, 1), 0);
        Bounds.sentence(37, "(IllegalArgumentException: no such SOUL, also for 0, 1.)");
        for (int what = 0; what <= 2; what++) {
            int asked = what;
            Kit.illegal("soul 2 for " + what, () -> owing.span(0, 1, 0, 1, asked, 2));
            Kit.illegal("soul -1 for " + what, () -> owing.span(0, 1, 0, 1, asked, -1));
            Kit.illegal("without souls for " + what, () -> Kit.bank("slab 0 9;").span(0, 1, 0, 1, asked, 0));
        }
        Kit.due("none of these is a NoSuchElementException", owing.status(0), 0);
        Kit.due("all are IllegalArgumentExceptions", owing.status(1), 6);
    }
}
