/** Promises 8 to 12, 26 to 30, 32 to 35 and 38 to 41: what is, what was, what is kept. */
public final class StateTest {
    private static final String TOWN =
            "slab 0 20;slab 0 15;slab 1 30;slab 2 0;soul 2 40;soul 0 10;soul 5 99;kin 1 1;kin 2 2;";

    private StateTest() {
    }

    public static void main(String[] args) {
        undo();
        told();
        slab();
        soul();
        loan();
        richest();
        next();
        shut();
        kind();
        worth();
        late();
        trust();
        deepest();
        poorest();
        image();
        status();
        count();
        Kit.end();
    }

    private static CryptBank lent() {
        CryptBank x = Kit.bank(TOWN);
        Kit.work(x, "lend 0 0 12 3;lend 1 1 10 1;lend 2 2 20 9;lend 0 2 4 3;night;night;");
        return x;
    }

    private static void undo() {
        Kit.part("promise 8");
        CryptBank x = Kit.bank(TOWN);
        Kit.due("nothing to undo", x.undo(), -1);
        Kit.work(x, "lend 0 0 12 3;night;earn 1 5;");
        Kit.work(x, "pay 0;seal 1;pay 0;");
        Kit.due("refused", x.told(10), 1);
        Kit.due("undone", x.undo(), 1);
        Kit.due("refused then", x.told(10), 0);
        Kit.due("loans", x.told(2), 1);
        Kit.due("paid", x.told(11), 0);
        Kit.due("sealed", x.told(4), 0);
        Kit.due("purse of 0", x.soul(0, 2), 40);
        Kit.due("standing of 0", x.soul(0, 0), 2);
        Kit.law(x, "5");
        Kit.book(x, "0 0 1;");
        Kit.due("undone, too", x.undo(), 0);
        Kit.due("loans", x.told(2), 0);
        Kit.due("night", x.told(3), 0);
        Kit.due("under 0", x.slab(0, 1), 20);
        Kit.due("purse of 1", x.soul(1, 2), 10);
        Kit.due("the law stays", x.would(1, 0, 0, 0, 0, 0, 0, 0), 5);
        Kit.due("the book stays", x.told(9), 1);
        Kit.due("no more", x.undo(), -1);
        for (int i = 0; i < 16; i++) {
            Kit.work(x, "night;");
        }
        for (int i = 15; i >= 0; i--) {
            Kit.due("undo", x.undo(), i);
            Kit.due("the night", x.told(3), i);
        }
    }

    private static void told() {
        Kit.part("promise 9");
        CryptBank x = lent();
        Kit.book(x, "0 0 1;1 0 1;");
        Kit.due("slabs", x.told(0), 4);
        Kit.due("souls", x.told(1), 3);
        Kit.due("loans", x.told(2), 4);
        Kit.due("night", x.told(3), 2);
        Kit.due("sealed", x.told(4), 2);
        Kit.due("under all", x.told(5), 8 + 5 + 6);
        Kit.due("owed", x.told(6), (12 + 2 + 1) + (10 + 2 + 1) + (20 + 4 + 1) + (4 + 0 + 1));
        Kit.due("overdue", x.told(7), 2);
        Kit.due("purses", x.told(8), 149);
        Kit.due("lines", x.told(9), 2);
        Kit.due("refused", x.told(10), 0);
        Kit.due("paid", x.told(11), 0);
        Kit.work(x, "pay 0;pay 0;pay 1;open 0;");
        Kit.due("refused then", x.told(10), 2);
        Kit.due("paid then", x.told(11), 2);
        Kit.due("purses then", x.told(8), 149 - 15 - 25);
        Kit.illegal("told(12)", () -> x.told(12));
        Kit.illegal("told(-1)", () -> x.told(-1));
    }

    private static void slab() {
        Kit.part("promise 10");
        CryptBank x = lent();
        int[] wanted = {1, 6, 30, 0, 12, 4};
        for (int what = 0; what < 6; what++) {
            Kit.due("slab(2, " + what + ")", x.slab(2, what), wanted[what]);
        }
        Kit.due("sealed", x.slab(1, 3), 1);
        Kit.due("its loans", x.slab(1, 4), 2);
        Kit.illegal("slab(0, 6)", () -> x.slab(0, 6));
        Kit.illegal("slab(0, -1)", () -> x.slab(0, -1));
        Kit.noSuch("slab(4, 6)", () -> x.slab(4, 6));
        Kit.noSuch("slab(-1, 0)", () -> x.slab(-1, 0));
    }

    private static void soul() {
        Kit.part("promise 11");
        CryptBank x = lent();
        int[] wanted = {2, 2, 40, 9, 20, 16};
        for (int what = 0; what < 6; what++) {
            Kit.due("soul(0, " + what + ")", x.soul(0, what), wanted[what]);
        }
        Kit.work(x, "pay 0;");
        Kit.due("standing", x.soul(0, 0), 3);
        Kit.due("as told", x.soul(0, 1), 2);
        Kit.illegal("soul(0, 6)", () -> x.soul(0, 6));
        Kit.illegal("soul(0, -1)", () -> x.soul(0, -1));
        Kit.noSuch("soul(3, 6)", () -> x.soul(3, 6));
        Kit.noSuch("soul(-1, 0)", () -> x.soul(-1, 0));
    }

    private static void loan() {
        Kit.part("promise 12");
        CryptBank x = lent();
        Kit.work(x, "lend 2 2 6 40;");
        int[] wanted = {2, 2, 6, 2, 42, 0, 7};
        for (int what = 0; what < 7; what++) {
            Kit.due("loan(4, " + what + ")", x.loan(4, what), wanted[what]);
        }
        Kit.due("overdue", x.loan(1, 5), 1);
        // What is owed knows the loan, its slab and its soul as they are by now.
        Kit.law(x, "amount*0+kind*100+kin*50+standing*5+left+night+soul");
        Kit.due("by the law", x.loan(2, 6), 100 + 50 + 25 + 0 + 2 + 2);
        Kit.due("no kin", x.loan(0, 6), 0 + 0 + 10 + 8 + 2 + 0);
        Kit.law(x, "nights*10+amount");
        Kit.due("nights since", x.loan(4, 6), 6);
        Kit.due("nights since", x.loan(3, 6), 24);
        Kit.illegal("loan(0, 7)", () -> x.loan(0, 7));
        Kit.illegal("loan(0, -1)", () -> x.loan(0, -1));
        CryptBank full = Kit.bank("slab 0 60;soul 9 99;kin 0 0;");
        Kit.work(full, "again 10[lend 0 0 1 1;];night;night;pay 9;open 0;lend 0 0 1 1;");
        Kit.due("a new loan in the place of an overdue one", full.loan(9, 5), 0);
        Kit.noSuch("loan(5, 7)", () -> x.loan(5, 7));
        Kit.noSuch("loan(-1, 0)", () -> x.loan(-1, 0));
    }

    private static void richest() {
        Kit.part("promise 26");
        CryptBank x = Kit.bank("slab 0 3;slab 0 9;slab 1 9;soul 1 1;");
        Kit.due("which", x.richest(0), 1);
        Kit.due("how much", x.richest(1), 9);
        Kit.work(x, "lend 0 1 1 1;seal 2;");
        Kit.due("sealed or not", x.richest(0), 2);
        Kit.illegal("richest(2)", () -> x.richest(2));
        Kit.illegal("richest(-1)", () -> x.richest(-1));
        CryptBank none = new CryptBank();
        Kit.due("none", none.richest(0), -1);
        Kit.due("none", none.richest(1), -1);
        Kit.due("empty ones", Kit.bank("slab 0 0;").richest(0), 0);
    }

    private static void next() {
        Kit.part("promise 27");
        CryptBank x = Kit.bank("slab 0 60;slab 0 60;soul 9 99;");
        Kit.due("no loans", x.next(1), -1);
        Kit.work(x, "lend 0 0 1 9;lend 0 1 1 4;lend 0 0 1 4;lend 0 1 1 1;");
        Kit.due("which", x.next(0), 3);
        Kit.due("in how many nights", x.next(1), 1);
        Kit.work(x, "night;night;");
        Kit.due("not overdue, of alike ones the first", x.next(0), 1);
        Kit.due("in how many nights then", x.next(1), 2);
        Kit.work(x, "night;night;");
        Kit.due("tonight", x.next(1), 0);
        Kit.work(x, "again 30[night;];");
        Kit.due("all overdue", x.next(0), -1);
        Kit.due("all overdue", x.next(1), -1);
        Kit.illegal("next(2)", () -> x.next(2));
        Kit.illegal("next(-1)", () -> x.next(-1));
    }

    private static void shut() {
        Kit.part("promise 28");
        Kit.due("no slabs", Kit.bank("soul 9 9;soul 1 1;").shut(), 3);
        CryptBank x = Kit.bank("slab 0 1;slab 1 0;soul 0 0;soul 1 0;soul 0 0;kin 2 0;kin 0 1;");
        Kit.due("standing or kin", x.shut(), 1);
        Kit.work(x, "seal 0;");
        Kit.due("sealed", x.shut(), 7);
        CryptBank y = Kit.bank("slab 0 60;soul 9 0;");
        Kit.work(y, "again 9[lend 0 0 1 9;];");
        Kit.due("9 loans", y.shut(), 0);
        Kit.work(y, "lend 0 0 1 9;");
        Kit.due("10 loans", y.shut(), 1);
    }

    private static void kind() {
        Kit.part("promise 29");
        CryptBank x = lent();
        Kit.due("under kind 0", x.kind(0, 0), 13);
        Kit.due("lent of kind 0", x.kind(0, 1), 22);
        Kit.due("lent of kind 1", x.kind(1, 1), 24);
        Kit.due("no such slabs", x.kind(5, 0), 0);
        Kit.work(x, "pay 0;");
        Kit.due("lent of kind 0 then", x.kind(0, 1), 10);
        Kit.illegal("kind(6, 0)", () -> x.kind(6, 0));
        Kit.illegal("kind(-1, 0)", () -> x.kind(-1, 0));
        Kit.illegal("kind(0, 2)", () -> x.kind(0, 2));
        Kit.illegal("kind(0, -1)", () -> x.kind(0, -1));
    }

    private static void worth() {
        Kit.part("promise 30");
        CryptBank x = lent();
        Kit.due("of 0", x.worth(0), 40 - 15 - 5);
        Kit.due("of 1", x.worth(1), 10 - 13);
        Kit.noSuch("worth(3)", () -> x.worth(3));
        Kit.noSuch("worth(-1)", () -> x.worth(-1));
    }

    private static void late() {
        Kit.part("promise 32");
        CryptBank x = lent();
        Kit.work(x, "lend 2 1 1 1;open 1;lend 1 1 1 9;");
        Kit.due("overdue", x.late(1, 0), 2);
        Kit.due("not overdue", x.late(1, 1), 16);
        Kit.due("of 0", x.late(0, 1), 9);
        Kit.due("of 0", x.late(0, 0), 0);
        Kit.illegal("late(0, 2)", () -> x.late(0, 2));
        Kit.illegal("late(0, -1)", () -> x.late(0, -1));
        Kit.noSuch("late(3, 2)", () -> x.late(3, 2));
    }

    private static void trust() {
        Kit.part("promise 33");
        CryptBank x = Kit.bank(TOWN);
        Kit.due("standing alone", x.trust(0, 20), 5);
        Kit.due("kin, too", x.trust(1, 15), 7);
        Kit.due("not so much", x.trust(1, 16), 0);
        Kit.work(x, "seal 1;");
        Kit.due("sealed", x.trust(1, 1), 0);
        Kit.illegal("trust(0, 0)", () -> x.trust(0, 0));
        Kit.illegal("trust(0, 61)", () -> x.trust(0, 61));
        Kit.noSuch("trust(4, 0)", () -> x.trust(4, 0));
        Kit.noSuch("trust(-1, 1)", () -> x.trust(-1, 1));
    }

    private static void deepest() {
        Kit.part("promise 34");
        CryptBank x = lent();
        Kit.due("which", x.deepest(0), 2);
        Kit.due("how much", x.deepest(1), 25);
        Kit.law(x, "0");
        Kit.due("of alike ones the first", x.deepest(0), 0);
        Kit.due("how much", x.deepest(1), 0);
        Kit.due("none", new CryptBank().deepest(0), -1);
        Kit.due("none", new CryptBank().deepest(1), -1);
        Kit.illegal("deepest(2)", () -> x.deepest(2));
        Kit.illegal("deepest(-1)", () -> x.deepest(-1));
    }

    private static void poorest() {
        Kit.part("promise 35");
        CryptBank x = Kit.bank("soul 1 9;soul 1 4;soul 1 4;");
        Kit.due("which", x.poorest(0), 1);
        Kit.due("how much", x.poorest(1), 4);
        Kit.work(x, "earn 1 1;");
        Kit.due("which then", x.poorest(0), 2);
        Kit.due("the first of all", Kit.bank("soul 1 0;soul 1 0;").poorest(0), 0);
        Kit.due("none", new CryptBank().poorest(0), -1);
        Kit.due("none", new CryptBank().poorest(1), -1);
        Kit.illegal("poorest(2)", () -> x.poorest(2));
        Kit.illegal("poorest(-1)", () -> x.poorest(-1));
    }

    private static void image() {
        Kit.part("promises 38 and 39");
        CryptBank x = lent();
        Kit.due("no image", x.restore(), -1);
        Kit.due("image", x.image(), 1);
        Kit.law(x, "3");
        Kit.book(x, "0 0 1;");
        Kit.work(x, "pay 0;seal 0;earn 1 9;night;pay 9;");
        Kit.due("image", x.image(), 2);
        Kit.work(x, "night;");
        Kit.due("image", x.image(), 3);
        Kit.due("a fourth", x.image(), -1);
        Kit.due("images", x.count(0), 3);
        x.undo();
        x.undo();
        x.undo();
        Kit.due("works", x.count(2), 0);
        Kit.due("restore", x.restore(), 2);
        Kit.due("works then", x.count(2), 3);
        Kit.due("night", x.told(3), 4);
        Kit.due("restore", x.restore(), 1);
        Kit.due("refused then", x.told(10), 0);
        Kit.due("night", x.told(3), 3);
        Kit.due("paid", x.told(11), 1);
        Kit.due("sealed", x.told(4), 3);
        Kit.work(x, "again 9[night;];");
        Kit.due("restore", x.restore(), 0);
        Kit.due("paid", x.told(11), 0);
        Kit.due("sealed", x.told(4), 2);
        Kit.due("purse", x.soul(1, 2), 10);
        Kit.due("loans", x.told(2), 4);
        Kit.due("the law stays", x.told(6), 12);
        Kit.due("the book stays", x.told(9), 1);
        Kit.due("undo behind restore", x.undo(), 0);
        Kit.due("loans then", x.told(2), 0);
        Kit.due("under 0 then", x.slab(0, 1), 20);
        imageOfPast();
        Kit.due("no more", x.restore(), -1);
    }

    /** What an image keeps of past works is not what was done since in their place. */
    private static void imageOfPast() {
        CryptBank x = Kit.bank(TOWN);
        Kit.work(x, "night;");
        Kit.work(x, "night;");
        x.image();
        x.undo();
        x.undo();
        Kit.work(x, "earn 0 5;");
        Kit.work(x, "earn 0 5;");
        Kit.work(x, "earn 0 5;");
        Kit.due("restore", x.restore(), 0);
        Kit.due("works", x.count(2), 2);
        Kit.due("undo", x.undo(), 1);
        Kit.due("night", x.told(3), 1);
        Kit.due("purse", x.soul(0, 2), 40);
        Kit.due("undo", x.undo(), 0);
        Kit.due("night", x.told(3), 0);
        Kit.due("purse", x.soul(0, 2), 40);
    }

    private static void status() {
        Kit.part("promise 40");
        CryptBank x = lent();
        x.image();
        Kit.noSuch("slab(9, 9)", () -> x.slab(9, 9));
        Kit.noSuch("clears(9)", () -> x.clears(9));
        Kit.illegal("county(1)", () -> x.county(1));
        Kit.due("no such", x.status(0), 2);
        Kit.due("illegal", x.status(1), 1);
        Kit.due("others", x.status(2), -1);
        Kit.due("others", x.status(-1), -1);
        x.restore();
        Kit.due("no image keeps it", x.status(0), 2);
        Kit.work(x, "x");
        Kit.due("a fault is no refusal", x.status(1), 1);
        Kit.county(x, "");
        Kit.due("behind a county", x.status(1), 1);
    }

    private static void count() {
        Kit.part("promise 41");
        CryptBank x = lent();
        x.image();
        x.feed(0, 0, 0, 0, 0);
        Kit.due("images", x.count(0), 1);
        Kit.due("bytes", x.count(1), 20);
        Kit.due("works", x.count(2), 1);
        Kit.due("others", x.count(3), -1);
        Kit.due("others", x.count(-1), -1);
    }
}
