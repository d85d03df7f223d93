/** Promises 13 to 25, 31, 36 and 37: what is asked of nights ahead, loans, lines and chances. */
public final class AskedTest {
    private static final String TOWN =
            "slab 0 20;slab 0 15;slab 1 30;slab 2 0;soul 2 40;soul 0 10;soul 5 99;kin 1 1;kin 2 2;";

    private AskedTest() {
    }

    public static void main(String[] args) {
        would();
        lends();
        ahead();
        cheapest();
        clears();
        comes();
        serves();
        call();
        run();
        all();
        saint();
        candles();
        broke();
        winter();
        span();
        Kit.end();
    }

    private static void would() {
        Kit.part("promise 13");
        CryptBank x = Kit.bank(TOWN);
        Kit.due("without a law", x.would(10, 5, 0, 0, 0, 0, 0, 0), 16);
        Kit.due("200 at most", x.would(60, 999, 5, 1, 9, 99, 999, 5), 200);
        int[] least = {1, 0, 0, 0, 0, 0, 0, 0};
        int[] most = {60, 999, 5, 1, 9, 99, 999, 5};
        for (int i = 0; i < 8; i++) {
            int[] low = least.clone();
            int[] high = most.clone();
            low[i]--;
            high[i]++;
            Kit.illegal("would, " + i + " too small", () -> would(x, low));
            Kit.illegal("would, " + i + " too great", () -> would(x, high));
        }
        Kit.due("refused", x.status(1), 16);
    }

    private static int would(CryptBank x, int[] f) {
        return x.would(f[0], f[1], f[2], f[3], f[4], f[5], f[6], f[7]);
    }

    private static void lends() {
        Kit.part("promise 14");
        CryptBank x = Kit.bank(TOWN);
        Kit.due("all that there is", x.lends(0, 0, 20), true);
        Kit.due("more", x.lends(0, 0, 21), false);
        Kit.due("standing 0", x.lends(1, 0, 1), false);
        Kit.due("kin", x.lends(1, 1, 15), true);
        Kit.work(x, "seal 0;again 10[lend 2 2 1 9;];");
        Kit.due("sealed, 10 loans", x.lends(0, 0, 1), false);
        Kit.due("10 loans", x.lends(2, 2, 1), false);
        Kit.work(x, "pay 0;open 0;");
        Kit.due("9 loans", x.lends(2, 2, 1), true);
        Kit.illegal("lends(0, 0, 0)", () -> x.lends(0, 0, 0));
        Kit.illegal("lends(0, 0, 61)", () -> x.lends(0, 0, 61));
        Kit.noSuch("lends(3, 0, 0)", () -> x.lends(3, 0, 0));
        Kit.noSuch("lends(0, 4, 0)", () -> x.lends(0, 4, 0));
        Kit.noSuch("lends(-1, 0, 1)", () -> x.lends(-1, 0, 1));
    }

    private static void ahead() {
        Kit.part("promise 15");
        CryptBank x = Kit.bank(TOWN);
        Kit.work(x, "lend 0 0 12 3;lend 1 1 10 1;lend 2 2 20 9;");
        Kit.due("owed now", x.ahead(0, 0), 13 + 11 + 21);
        Kit.due("owed in 5", x.ahead(5, 0), 19 + 16 + 31);
        Kit.due("overdue in 1", x.ahead(1, 2), 0);
        Kit.due("overdue in 2", x.ahead(2, 2), 2);
        Kit.due("sealed in 3", x.ahead(3, 1), 2);
        Kit.due("sealed in 4", x.ahead(4, 1), 3);
        Kit.due("overdue in 99", x.ahead(99, 2), 7);
        Kit.due("nothing stays changed", x.told(3) + x.told(4) + x.told(7), 0);
        Kit.law(x, "standing*10+night");
        Kit.due("standing falls on the way", x.ahead(99, 0), (10 + 99) + (0 + 99) + (40 + 99));
        CryptBank late = Kit.bank("slab 0 60;soul 5 5;");
        Kit.work(late, "again 30[again 30[night;];];");
        Kit.work(late, "again 30[again 30[night;];];");
        Kit.work(late, "again 30[night;];lend 0 0 1 40;");
        Kit.law(late, "night/3");
        Kit.due("beyond night 400", late.ahead(99, 0), 499 / 3);
        Kit.due("overdue there", late.ahead(41, 2), 1);
        Kit.illegal("ahead(100, 0)", () -> x.ahead(100, 0));
        Kit.illegal("ahead(-1, 0)", () -> x.ahead(-1, 0));
        Kit.illegal("ahead(0, 3)", () -> x.ahead(0, 3));
        Kit.illegal("ahead(0, -1)", () -> x.ahead(0, -1));
    }

    private static void cheapest() {
        Kit.part("promise 16");
        CryptBank x = Kit.bank(TOWN);
        Kit.due("of alike ones the first", x.cheapest(0, 0, 10, 5), 0);
        Kit.due("none lends so much", x.cheapest(0, 0, 21, 1), -1);
        Kit.due("no such kind", x.cheapest(0, 5, 1, 1), -1);
        Kit.due("kin alone", x.cheapest(1, 0, 5, 3), 1);
        Kit.law(x, "left");
        Kit.due("less under the slab", x.cheapest(0, 0, 15, 1), 1);
        // 12 % 11 and 7 % 11; with 8 more under each it would be 28 % 11 and 23 % 11.
        Kit.law(x, "left % 11");
        Kit.due("n less under it", x.cheapest(0, 0, 8, 1), 0);
        cheapestByNights();
        Kit.work(x, "seal 0;");
        Kit.due("sealed", x.cheapest(0, 0, 10, 5), 1);
        Kit.illegal("kind 6", () -> x.cheapest(0, 6, 1, 1));
        Kit.illegal("n 0", () -> x.cheapest(0, 0, 0, 1));
        Kit.illegal("n 61", () -> x.cheapest(0, 0, 61, 1));
        Kit.illegal("t 0", () -> x.cheapest(0, 0, 1, 0));
        Kit.illegal("t 41", () -> x.cheapest(0, 0, 1, 41));
        Kit.noSuch("soul 3", () -> x.cheapest(3, 9, 0, 0));
    }

    /** The one is cheap for kin, the other by what is under it: the law's facts tell which counts. */
    private static void cheapestByNights() {
        CryptBank x = Kit.bank("slab 0 20;slab 0 15;soul 5 5;kin 0 0;");
        Kit.work(x, "again 10[night;];");
        Kit.law(x, "most[0,(night-13)*100]*kin + left");
        Kit.due("night 12", x.cheapest(0, 0, 1, 2), 1);
        Kit.law(x, "most[0,13-night]*100*(1-kin) + left");
        Kit.due("night 12, before 13", x.cheapest(0, 0, 1, 2), 0);
        Kit.due("night 13", x.cheapest(0, 0, 1, 3), 1);
        Kit.law(x, "most[0,nights-2]*100*kin + (20-left)");
        Kit.due("in two nights", x.cheapest(0, 0, 1, 2), 0);
        Kit.due("in three nights", x.cheapest(0, 0, 1, 3), 1);
        Kit.law(x, "amount*kin*10 + (20-left)*9");
        Kit.due("of one", x.cheapest(0, 0, 1, 1), 0);
        Kit.due("of nine", x.cheapest(0, 0, 9, 1), 1);
    }

    private static CryptBank owing() {
        CryptBank x = Kit.bank("slab 0 60;slab 0 60;soul 9 20;soul 9 99;");
        Kit.law(x, "amount");
        Kit.work(x, "lend 0 0 9 9;lend 1 0 5 9;lend 0 1 6 9;lend 0 0 6 9;lend 0 1 8 9;lend 1 1 20 9;");
        return x;
    }

    private static void clears() {
        Kit.part("promise 17");
        CryptBank x = owing();
        Kit.due("most loans, then least owed", x.clears(0), 4 + 8 + 16);
        Kit.work(x, "earn 0 1;");
        Kit.due("of as many the least owed, not the first", x.clears(0), 4 + 8 + 16);
        x.undo();
        Kit.due("all", x.clears(1), 2 + 32);
        Kit.law(x, "amount + 4");
        Kit.due("of alike ones the least bits", x.clears(0), 4 + 8);
        Kit.law(x, "8");
        Kit.due("the first two", x.clears(0), 1 + 4);
        Kit.law(x, "20");
        Kit.due("the first alone", x.clears(0), 1);
        Kit.law(x, "0");
        Kit.due("owing nothing", x.clears(0), 1 + 4 + 8 + 16);
        Kit.law(x, "amount * 20");
        Kit.due("none", x.clears(0), 0);
        Kit.noSuch("clears(2)", () -> x.clears(2));
        Kit.noSuch("clears(-1)", () -> x.clears(-1));
    }

    private static void comes() {
        Kit.part("promise 18");
        CryptBank x = owing();
        Kit.due("nothing", x.comes(0), 1);
        // Of 9, 5, 6, 6, 8, 20: 14 are 9 and 5, 6 and 8, 6 and 8.
        Kit.due("14", x.comes(14), 3);
        Kit.due("all", x.comes(54), 1);
        Kit.due("none", x.comes(55), 0);
        Kit.law(x, "0");
        Kit.due("all sets", x.comes(0), 64);
        Kit.illegal("comes(1000)", () -> x.comes(1000));
        Kit.illegal("comes(-1)", () -> x.comes(-1));
        Kit.due("comes(999)", x.comes(999), 0);
    }

    private static void servedAre(CryptBank x, String book, int lines, int amount, int... slabs) {
        Kit.due("lines of " + book, Kit.book(x, book), slabs.length);
        Kit.due("served of " + book, x.serves(0), lines);
        Kit.due("together of " + book, x.serves(1), amount);
        for (int i = 0; i < slabs.length; i++) {
            Kit.due("line " + i + " of " + book, x.served(i), slabs[i]);
        }
    }

    private static void serves() {
        Kit.part("promises 19 and 20");
        CryptBank x = Kit.bank("slab 0 10;slab 0 10;slab 1 60;soul 1 0;soul 0 0;kin 1 1;");
        servedAre(x, "", 0, 0);
        servedAre(x, "0 0 10;0 0 10;0 0 10;", 2, 20, 0, 1, -1);
        servedAre(x, "0 0 4;0 0 6;0 0 7;0 0 3;", 4, 20, 0, 0, 1, 1);
        servedAre(x, "0 0 10;0 0 5;0 0 5;", 3, 20, 0, 1, 1);
        servedAre(x, "0 0 9;0 0 10;0 0 8;", 2, 19, 0, 1, -1);
        servedAre(x, "0 0 8;0 0 10;0 0 9;", 2, 19, -1, 0, 1);
        servedAre(x, "0 0 10;1 0 10;", 2, 20, 0, 1);
        servedAre(x, "1 0 10;0 0 10;", 2, 20, 1, 0);
        servedAre(x, "0 0 11;0 2 1;0 1 60;", 1, 60, -1, -1, 2);
        servedAre(x, "1 1 5;1 0 5;", 1, 5, -1, 1);
        servedAre(x, "0 0 10;0 0 1;0 0 1;0 0 10;", 3, 12, 0, 1, 1, -1);
        Kit.work(x, "seal 0;again 10[lend 0 2 1 9;];");
        servedAre(x, "0 0 10;0 1 50;", 2, 60, 1, 2);
        Kit.illegal("serves(2)", () -> x.serves(2));
        Kit.illegal("serves(-1)", () -> x.serves(-1));
        Kit.noSuch("served(2)", () -> x.served(2));
        Kit.noSuch("served(-1)", () -> x.served(-1));
    }

    private static void called(CryptBank x, String book, int kind, int least) {
        Kit.book(x, book);
        Kit.due("call for " + kind + " by " + book, x.call(kind), least);
    }

    private static void call() {
        Kit.part("promise 21");
        CryptBank x = Kit.bank("slab 0 10;slab 0 10;slab 1 60;soul 1 0;soul 0 0;");
        called(x, "", 3, 0);
        called(x, "0 0 10;0 0 10;", 0, 0);
        called(x, "0 0 10;0 0 10;0 0 7;", 0, 7);
        called(x, "0 0 10;0 0 10;0 0 7;", 1, -1);
        called(x, "1 0 10;1 2 10;", 0, -1);
        called(x, "1 2 10;1 2 60;0 2 29;", 2, 99);
        called(x, "1 2 10;1 2 60;0 2 30;", 2, -1);
        called(x, "0 0 6;0 0 6;0 0 6;0 0 4;", 0, 6);
        Kit.illegal("call(6)", () -> x.call(6));
        Kit.illegal("call(-1)", () -> x.call(-1));
    }

    private static void run() {
        Kit.part("promise 22");
        CryptBank x = Kit.bank("slab 0 10;slab 0 0;slab 0 60;soul 0 0;soul 0 21;soul 0 11;");
        // Wanted: 1, 10, 5, of 10.
        Kit.due("of one", x.run(0, 0), 2);
        Kit.due("of ten", x.run(0, 1), 4);
        Kit.due("of five", x.run(0, 2), 2);
        Kit.due("nothing under it", x.run(1, 0), 6);
        Kit.due("enough for all", x.run(2, 1), 0);
        Kit.work(x, "seal 2;");
        Kit.due("sealed or not", x.run(2, 1), 0);
        Kit.noSuch("run(3, 0)", () -> x.run(3, 0));
        Kit.noSuch("run(0, 3)", () -> x.run(0, 3));
        Kit.noSuch("run(-1, 0)", () -> x.run(-1, 0));
        Kit.due("six souls", Kit.bank("slab 0 0;" + "soul 1 1;".repeat(6)).run(0, 5), 720);
        Kit.due("six alike for three", Kit.bank("slab 0 3;" + "soul 1 1;".repeat(6)).run(0, 5), 360);
    }

    private static void fraction(int n, int k, int q, long above, long below) {
        CryptBank x = new CryptBank();
        Kit.due("above " + n + ", " + k + ", " + q, x.all(n, k, q, 0), above);
        Kit.due("below " + n + ", " + k + ", " + q, x.all(n, k, q, 1), below);
    }

    private static void all() {
        Kit.part("promise 23");
        fraction(0, 0, 0, 1, 1);
        fraction(0, 1, 16, 0, 1);
        fraction(1, 1, 6, 3, 8);
        fraction(2, 1, 8, 3, 4);
        fraction(2, 2, 4, 1, 16);
        fraction(12, 0, 5, 1, 1);
        fraction(12, 12, 16, 1, 1);
        fraction(12, 1, 0, 0, 1);
        fraction(12, 13, 9, 0, 1);
        fraction(12, 12, 1, 1, 1L << 48);
        fraction(12, 1, 15, (1L << 48) - 1, 1L << 48);
        fraction(3, 2, 12, 27, 32);
        CryptBank x = new CryptBank();
        Kit.illegal("n 13", () -> x.all(13, 0, 0, 0));
        Kit.illegal("n -1", () -> x.all(-1, 0, 0, 0));
        Kit.illegal("k 14", () -> x.all(0, 14, 0, 0));
        Kit.illegal("k -1", () -> x.all(0, -1, 0, 0));
        Kit.illegal("q 17", () -> x.all(0, 0, 17, 0));
        Kit.illegal("q -1", () -> x.all(0, 0, -1, 0));
        Kit.illegal("part 2", () -> x.all(0, 0, 0, 2));
        Kit.illegal("part -1", () -> x.all(0, 0, 0, -1));
    }

    private static void saint() {
        Kit.part("promise 24");
        CryptBank x = new CryptBank();
        Kit.due("one rest", x.saint(9, 2, 0), 1);
        Kit.due("both lend", x.saint(9, 2, 1), 11);
        Kit.due("together", x.saint(9, 2, 2), 4);
        Kit.due("four rests", x.saint(9, 0, 0), 4);
        Kit.due("the first: both give", x.saint(9, 0, 1), 0);
        Kit.due("together", x.saint(9, 0, 2), 18);
        Kit.due("99 and 99", x.saint(99, 99, 2), 198);
        Kit.illegal("v 100", () -> x.saint(100, 0, 0));
        Kit.illegal("v -1", () -> x.saint(-1, 0, 0));
        Kit.illegal("w 100", () -> x.saint(0, 100, 0));
        Kit.illegal("w -1", () -> x.saint(0, -1, 0));
        Kit.illegal("what 3", () -> x.saint(0, 0, 3));
        Kit.illegal("what -1", () -> x.saint(0, 0, -1));
    }

    private static void candles() {
        Kit.part("promise 25");
        CryptBank x = Kit.bank("soul 0 5;soul 0 30;soul 0 99;");
        Kit.due("level", x.candles(2, 7, 34), 14);
        Kit.due("the small purse whole", x.candles(0, 7, 34), 5);
        Kit.due("what is left over is not given", x.candles(1, 7, 35), 15);
        Kit.due("all", x.candles(2, 7, 134), 99);
        Kit.due("all, with more", x.candles(2, 7, 999), 99);
        Kit.due("less than one each", x.candles(2, 7, 2), 0);
        Kit.due("nothing", x.candles(2, 7, 0), 0);
        Kit.due("none of them", x.candles(0, 6, 100), 0);
        Kit.due("among none", x.candles(0, 0, 100), 0);
        Kit.due("alone", x.candles(2, 4, 50), 50);
        Kit.illegal("bits of no souls", () -> x.candles(0, 8, 0));
        Kit.illegal("negative bits", () -> x.candles(0, -1, 0));
        Kit.illegal("n 1000", () -> x.candles(0, 1, 1000));
        Kit.illegal("n -1", () -> x.candles(0, 1, -1));
        Kit.noSuch("soul 3", () -> x.candles(3, 8, 1000));
        CryptBank rich = Kit.bank("soul 0 99;soul 0 99;");
        Kit.work(rich, "again 9[earn 0 60;earn 1 60;];");
        Kit.due("purses of 300", rich.candles(1, 3, 999), 300);
        Kit.due("purses of 300, levelled", rich.candles(1, 3, 599), 299);
    }

    private static void broke() {
        Kit.part("promise 31");
        CryptBank x = Kit.bank("slab 0 60;soul 9 30;soul 9 0;soul 9 99;");
        Kit.work(x, "lend 0 0 10 5;lend 1 0 1 1;lend 2 0 1 1;");
        // 11 and one more each night: above 30 from night 20 on.
        Kit.due("in so many nights", x.broke(0), 20);
        Kit.due("now", x.broke(1), 0);
        Kit.due("not in 99", x.broke(2), -1);
        Kit.law(x, "night");
        Kit.due("in the 31st", x.broke(0), 31);
        Kit.due("not in 99, just", x.broke(2), -1);
        Kit.law(x, "night + 1");
        Kit.due("in 99, just", x.broke(2), 99);
        Kit.law(x, "9 - standing");
        Kit.due("by standing that falls", x.broke(1), 2);
        Kit.due("nothing stays changed", x.told(3) + x.told(7), 0);
        Kit.noSuch("broke(3)", () -> x.broke(3));
        Kit.noSuch("broke(-1)", () -> x.broke(-1));
    }

    private static void winter() {
        Kit.part("promise 36");
        // Seed 0 draws 0, 21468, 9988, 22117, 3498 (bits 16 to 30), and so on.
        CryptBank x = Kit.bank("slab 0 60;slab 0 60;soul 9 99;soul 9 99;");
        Kit.due("a loan", x.winter(0, 0, 1, 0), 1);
        Kit.due("9988 by 20, and 1", x.winter(0, 0, 1, 1), 120 - 9);
        Kit.due("3498 by 16 is 10: not below 10", x.winter(0, 10, 1, 3), 0);
        Kit.due("but below 11", x.winter(0, 11, 1, 3), 1);
        Kit.due("and so it is paid", x.winter(0, 11, 1, 0), 0);
        Kit.due("with one more", x.winter(0, 11, 1, 1), 121);
        Kit.due("sealed in the end", x.winter(0, 0, 96, 2), 3);
        Kit.due("nothing stays changed", x.told(2) + x.told(3) + x.told(4), 0);
        CryptBank bare = Kit.bank("slab 0 60;");
        Kit.due("without souls", bare.winter(7, 16, 96, 1), 60);
        CryptBank ground = Kit.bank("soul 9 99;");
        Kit.due("without slabs", ground.winter(7, 16, 96, 0) + ground.winter(7, 16, 96, 1), 0);
        Kit.due("without slabs no standing falls", ground.span(7, 9, 0, 96, 2, 0), 0);
        // 22117 by 9 is 4: due in night 5, overdue and sealed in night 6.
        CryptBank one = Kit.bank("slab 0 9;soul 9 99;");
        Kit.due("not yet", one.winter(0, 0, 5, 2), 0);
        Kit.due("sealed", one.winter(0, 0, 6, 2), 1);
        CryptBank led = Kit.bank("slab 0 60;soul 9 99;");
        Kit.work(led, "lend 0 0 1 1;pay 0;lend 0 0 2 1;");
        Kit.due("paid in it, not by now", led.winter(0, 0, 9, 3), 0);
        Kit.due("from the state as it is", led.winter(0, 0, 96, 2), 1);
        Kit.illegal("q 17", () -> x.winter(0, 17, 1, 0));
        Kit.illegal("q -1", () -> x.winter(0, -1, 1, 0));
        Kit.illegal("nights 0", () -> x.winter(0, 0, 0, 0));
        Kit.illegal("nights 97", () -> x.winter(0, 0, 97, 0));
        Kit.illegal("what 4", () -> x.winter(0, 0, 1, 4));
        Kit.illegal("what -1", () -> x.winter(0, 0, 1, -1));
    }

    private static void span() {
        Kit.part("promise 37");
        CryptBank x = Kit.bank("slab 0 60;slab 1 40;soul 2 99;soul 1 99;");
        int[] seeds = {0, -5, Integer.MAX_VALUE - 3};
        for (int seed : seeds) {
            int least = Integer.MAX_VALUE;
            int most = 0;
            for (int i = 0; i < 20; i++) {
                int under = x.winter(seed + i, 5, 30, 1);
                least = Math.min(least, under);
                most = Math.max(most, under);
            }
            Kit.due("least", x.span(seed, 20, 5, 30, 0, 0), least);
            Kit.due("most", x.span(seed, 20, 5, 30, 1, 1), most);
        }
        Kit.due("none pays: all fall", x.span(3, 20, 0, 96, 2, 1), 20);
        Kit.due("one night: none falls", x.span(3, 20, 0, 1, 2, 1), 0);
        Kit.due("one seed", x.span(7, 1, 5, 30, 0, 0), x.winter(7, 5, 30, 1));
        Kit.illegal("many 0", () -> x.span(0, 0, 0, 1, 0, 0));
        Kit.illegal("many 21", () -> x.span(0, 21, 0, 1, 0, 0));
        Kit.illegal("q 17", () -> x.span(0, 1, 17, 1, 0, 0));
        Kit.illegal("nights 97", () -> x.span(0, 1, 0, 97, 0, 0));
        Kit.illegal("nights 0", () -> x.span(0, 1, 0, 0, 0, 0));
        Kit.illegal("what 3", () -> x.span(0, 1, 0, 1, 3, 0));
        Kit.illegal("what -1", () -> x.span(0, 1, 0, 1, -1, 0));
        Kit.illegal("soul 2", () -> x.span(0, 1, 0, 1, 0, 2));
        Kit.illegal("soul -1", () -> x.span(0, 1, 0, 1, 1, -1));
        Kit.due("no such soul is illegal", x.status(0), 0);
    }
}
