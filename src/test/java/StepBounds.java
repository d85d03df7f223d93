/** Part 2 of the Terms and promises 8 to 12 and 38 to 41, sentence by sentence: STEPS, NIGHTS, what is kept. */
final class StepBounds {
    private static final String SEVEN_NIGHTS = "night;".repeat(7);

    private StepBounds() {
    }

    static void all() {
        atFirst();
        loans();
        lends();
        refusedSteps();
        twoHundredSteps();
        lend();
        pay();
        earn();
        sealAndOpen();
        night();
        undo();
        toldCounts();
        toldAtMost();
        toldRefused();
        ofSlabSoulLoan();
        image();
        restore();
        status();
        count();
    }

    /** 199 NIGHTS go by with each such WORK. */
    private static void passNights(CryptBank x, int works) {
        for (int i = 0; i < works; i++) {
            Kit.due("199 nights", Kit.work(x, "again 30[" + SEVEN_NIGHTS + "];"), 199);
        }
    }

    private static void atFirst() {
        Bounds.sentence(3, "It is NIGHT 0 at first, no SLAB is SEALED, there are no LOANS");
        CryptBank x = Kit.bank("slab 0 0;slab 0 1;soul 0 0;");
        Kit.due("the night", x.told(3), 0);
        Kit.due("sealed", x.told(4), 0);
        Kit.due("loans", x.told(2), 0);
        Kit.noSuch("loan(0, 0)", () -> x.loan(0, 0));
        Kit.work(x, "night;seal 1;");
        Kit.county(x, "slab 0 5;slab 0 5;soul 1 1;");
        Kit.due("the night of a new county", x.told(3), 0);
        Kit.due("sealed in it", x.told(4), 0);
    }

    private static CryptBank tenLoans() {
        CryptBank x = Kit.bank("slab 0 60;soul 9 99;");
        Kit.law(x, "1");
        Kit.due("ten loans", Kit.work(x, "lend 0 0 1 9;lend 0 0 2 9;lend 0 0 3 9;lend 0 0 4 9;lend 0 0 5 9;lend 0 0 6 9;"
                + "lend 0 0 7 9;lend 0 0 8 9;lend 0 0 9 9;lend 0 0 10 9;"), 10);
        return x;
    }

    private static void amountsAre(CryptBank x, int... amounts) {
        Kit.due("loans", x.told(2), amounts.length);
        for (int loan = 0; loan < amounts.length; loan++) {
            Kit.due("N of loan " + loan, x.loan(loan, 2), amounts[loan]);
        }
        Kit.noSuch("behind the last loan", () -> x.loan(amounts.length, 2));
    }

    private static void loans() {
        Bounds.sentence(12, "(numbered from 0 on as they were taken, 10 at most; behind one that is gone the numbers are"
                + " 1 less)");
        CryptBank x = tenLoans();
        amountsAre(x, 1, 2, 3, 4, 5, 6, 7, 8, 9, 10);
        Kit.due("an eleventh", Kit.work(x, "lend 0 0 1 1;"), 0);
        amountsAre(x, 1, 2, 3, 4, 5, 6, 7, 8, 9, 10);
        Kit.due("the last is paid", Kit.work(x, "pay 9;"), 1);
        amountsAre(x, 1, 2, 3, 4, 5, 6, 7, 8, 9);
        Kit.due("one amidst is paid", Kit.work(x, "pay 3;"), 1);
        amountsAre(x, 1, 2, 3, 5, 6, 7, 8, 9);
        Kit.due("the first is paid", Kit.work(x, "pay 0;"), 1);
        amountsAre(x, 2, 3, 5, 6, 7, 8, 9);
        Kit.due("a new one is the last", Kit.work(x, "lend 0 0 4 1;"), 1);
        amountsAre(x, 2, 3, 5, 6, 7, 8, 9, 4);
        Kit.due("two more", Kit.work(x, "again 9[pay 0;];lend 0 0 7 1;lend 0 0 1 1;"), 10);
        amountsAre(x, 7, 1);
        CryptBank y = tenLoans();
        Kit.due("all overdue, one of ten is paid", Kit.work(y, "again 10[night;];pay 9;"), 11);
        Kit.due("nine are overdue", y.told(7), 511);
        Kit.due("what nine are", y.soul(0, 5), 45);
        Kit.due("what nine are of its kind", y.kind(0, 1), 45);
        Kit.due("of its slab", y.slab(0, 4), 511);
        CryptBank z = Kit.bank("slab 0 60;soul 9 99;kin 0 0;");
        Kit.work(z, "again 10[lend 0 0 1 1;];night;night;pay 9;open 0;");
        Kit.due("a new one in the place of an overdue one", Kit.work(z, "lend 0 0 1 1;"), 1);
        Kit.due("is not overdue", z.loan(9, 5), 0);
        Kit.due("nine are", z.told(7), 511);
    }

    private static void lends() {
        Bounds.sentence(14, "A SLAB LENDS N to a SOUL, if it is not SEALED");
        CryptBank x = Kit.bank("slab 0 9;slab 0 9;soul 1 0;soul 0 0;kin 1 0;");
        Kit.due("it is not", x.lends(0, 0, 9), true);
        Kit.work(x, "seal 0;");
        Kit.due("it is", x.lends(0, 0, 1), false);
        Kit.due("it is, and kin", x.lends(1, 0, 1), false);
        Kit.due("another is not", x.lends(0, 1, 9), true);
        Kit.work(x, "open 0;");
        Kit.due("it is no more", x.lends(1, 0, 9), true);
        Bounds.sentence(14, "there are N or more under it");
        CryptBank y = Kit.bank("slab 0 0;slab 0 1;slab 0 59;slab 0 60;soul 1 0;");
        int[] under = {0, 1, 59, 60};
        for (int slab = 0; slab < under.length; slab++) {
            for (int n : new int[] {1, 2, 58, 59, 60}) {
                Kit.due(n + " of " + under[slab], y.lends(0, slab, n), n <= under[slab]);
            }
        }
        Bounds.sentence(14, "the SOUL's STANDING is above 0, or it is kin to the SLAB");
        CryptBank z = Kit.bank("slab 0 9;slab 0 9;soul 0 0;soul 1 0;soul 0 0;soul 1 0;kin 2 0;kin 3 0;");
        Kit.due("standing 0", z.lends(0, 0, 1), false);
        Kit.due("standing 1", z.lends(1, 0, 1), true);
        Kit.due("standing 0, kin", z.lends(2, 0, 1), true);
        Kit.due("standing 1, kin", z.lends(3, 0, 1), true);
        Kit.due("standing 0, kin to another", z.lends(2, 1, 1), false);
        Bounds.sentence(14, "and there are fewer than 10 LOANS");
        CryptBank ten = Kit.bank("slab 0 60;slab 0 60;soul 9 99;soul 0 0;kin 1 1;");
        Kit.due("nine", Kit.work(ten, "again 9[lend 0 0 1 9;];"), 9);
        Kit.due("by nine", ten.lends(0, 0, 1), true);
        Kit.due("by nine, kin", ten.lends(1, 1, 60), true);
        Kit.due("the tenth", Kit.work(ten, "lend 0 0 1 9;"), 1);
        Kit.due("by ten", ten.lends(0, 0, 1), false);
        Kit.due("by ten, kin of another slab", ten.lends(1, 1, 1), false);
        Kit.due("one is paid", Kit.work(ten, "pay 5;"), 1);
        Kit.due("by nine again", ten.lends(1, 1, 1), true);
    }

    /** The STEP is refused alone: it counts as WORK, and the state is as it was. */
    private static void isRefused(CryptBank x, String step) {
        String before = Look.state(x);
        int works = x.count(2);
        Kit.due("done of '" + step + "'", Kit.work(x, step), 0);
        Kit.due("refused of '" + step + "'", x.told(10), 1);
        Kit.due("works behind '" + step + "'", x.count(2), works + 1);
        Kit.same("the state behind '" + step + "'", Look.state(x), before);
        Kit.due("'" + step + "' is no refused call", x.status(0) + x.status(1), 0);
    }

    private static void refusedSteps() {
        Bounds.sentence(5, "STEPS are done in order; one that can't be done is REFUSED, and changes nothing");
        CryptBank x = Kit.bank("slab 0 1;soul 9 0;");
        Kit.due("in order: refused, done, refused", Kit.work(x, "open 0;seal 0;lend 0 0 1 1;"), 1);
        Kit.due("refused", x.told(10), 2);
        Kit.due("in order: done, done, refused", Kit.work(x, "open 0;lend 0 0 1 1;open 0;"), 2);
        Kit.due("refused", x.told(10), 1);
        isRefused(x, "open 0;");
        isRefused(x, "lend 0 0 1 1;");
        isRefused(x, "pay 0;");
        isRefused(x, "pay 1;");
        isRefused(x, "pay 9;");
        Kit.work(x, "seal 0;");
        isRefused(x, "seal 0;");
        Kit.due("the next step is done all the same", Kit.work(x, "seal 0;night;"), 1);
    }

    private static void twoHundredSteps() {
        Bounds.sentence(5, "200 STEPS at most are begun by one WORK (an again, too, each time it is come to; REFUSED ones,"
                + " too), what would come behind is left out");
        // The again is one, its steps are 196.
        String begun = "again 28[" + SEVEN_NIGHTS + "];";
        begunAre("199", begun + "night;seal 0;", 198, 0, 1);
        begunAre("200", begun + "night;night;seal 0;", 199, 0, 1);
        begunAre("201", begun + "night;night;night;seal 0;", 199, 0, 0);
        begunAre("202", begun + "night;night;night;night;seal 0;", 199, 0, 0);
        String agains = "again 28[" + "again0[];".repeat(7) + "];";
        begunAre("200 with agains", agains + "night;night;seal 0;", 3, 0, 1);
        begunAre("201 with agains", agains + "night;night;night;seal 0;", 3, 0, 0);
        String refused = "again 28[" + "pay 9;".repeat(7) + "];";
        begunAre("200 with refused ones", refused + "night;night;seal 0;", 3, 196, 1);
        begunAre("201 with refused ones", refused + "night;night;night;seal 0;", 3, 196, 0);
        begunAre("an again as the 199th", begun + "night;again 1[seal 0;];", 198, 0, 1);
        begunAre("an again as the 200th", begun + "night;night;again 1[seal 0;];", 198, 0, 0);
        begunAre("an again as the 201st", begun + "night;night;night;again 1[seal 0;];", 199, 0, 0);
        begunAre("left out amidst loops", "again 30[again 30[again 30[pay 9;];];];seal 0;", 0, 191, 0);
        begunAre("an empty loop in loops", "again 30[again 30[again 30[];];];seal 0;", 0, 0, 0);
        CryptBank x = Kit.bank("slab 0 0;");
        Kit.due("one work", Kit.work(x, "again 30[" + SEVEN_NIGHTS + "];"), 199);
        Kit.due("the next begins anew", Kit.work(x, begun + "night;night;seal 0;"), 199);
    }

    private static void begunAre(String what, String text, int done, int refused, int sealed) {
        CryptBank x = Kit.bank("slab 0 0;");
        Kit.due(what + ": done", Kit.work(x, text), done);
        Kit.due(what + ": refused", x.told(10), refused);
        Kit.due(what + ": sealed", x.told(4), sealed);
    }

    private static void lend() {
        Bounds.sentence(5, "lend (REFUSED, if P does not LEND N to A)");
        CryptBank x = Kit.bank("slab 0 20;slab 0 60;soul 1 0;soul 0 0;kin 1 1;");
        isRefused(x, "lend 0 0 21 1;");
        isRefused(x, "lend 1 0 1 1;");
        Kit.due("just so much", Kit.work(x, "lend 0 0 20 1;"), 1);
        isRefused(x, "lend 0 0 1 1;");
        Kit.due("kin", Kit.work(x, "lend 1 1 1 1;seal 1;"), 2);
        isRefused(x, "lend 1 1 1 1;");
        Kit.due("up to ten", Kit.work(x, "open 1;again 8[lend 0 1 1 1;];"), 9);
        isRefused(x, "lend 0 1 1 1;");
        Bounds.sentence(5, "there are N less under P, there is a LOAN more, of A, P, N, DUE in the NIGHT T from now");
        CryptBank y = Kit.bank("slab 0 60;slab 0 60;soul 5 5;soul 5 5;");
        Kit.due("in night 2", Kit.work(y, "night;night;lend 1 0 60 40;lend 0 1 1 1;"), 4);
        Kit.due("all of it", y.slab(0, 1), 0);
        Kit.due("one of it", y.slab(1, 1), 59);
        Kit.due("loans", y.told(2), 2);
        int[][] due = {{1, 0, 60, 2, 42, 0}, {0, 1, 1, 2, 3, 0}};
        for (int loan = 0; loan < due.length; loan++) {
            for (int what = 0; what < 6; what++) {
                Kit.due("loan(" + loan + ", " + what + ")", y.loan(loan, what), due[loan][what]);
            }
        }
        Kit.due("the purse stays", y.soul(1, 2), 5);
        passNights(y, 2);
        Kit.due("in night 400", Kit.work(y, "open 1;lend 0 1 1 40;"), 2);
        Kit.due("due beyond it", y.loan(2, 4), 440);
    }

    private static void pay() {
        Bounds.sentence(5, "pay (REFUSED, if there is no LOAN L, or it OWES more than is in the PURSE of its SOUL)");
        CryptBank x = Kit.bank("slab 0 60;soul 5 50;soul 5 99;");
        isRefused(x, "pay 0;");
        Kit.work(x, "lend 0 0 1 9;");
        isRefused(x, "pay 1;");
        Kit.law(x, "51");
        isRefused(x, "pay 0;");
        Kit.law(x, "50");
        Kit.due("all that is in it", Kit.work(x, "pay 0;"), 1);
        Kit.due("the purse", x.soul(0, 2), 0);
        Kit.due("the other's purse", x.soul(1, 2), 99);
        Kit.work(x, "lend 0 0 1 9;");
        isRefused(x, "pay 0;");
        Kit.law(x, "0");
        Kit.due("nothing of nothing", Kit.work(x, "pay 0;"), 1);
        Bounds.sentence(5, "what it OWES goes from the PURSE to under the SLAB (99 at most there), the LOAN is gone");
        String[] laws = {"0", "1", "39", "40", "41", "99"};
        int[] owes = {0, 1, 39, 40, 41, 99};
        for (int i = 0; i < laws.length; i++) {
            CryptBank y = Kit.bank("slab 0 60;slab 1 60;soul 5 99;");
            Kit.law(y, laws[i]);
            Kit.work(y, "lend 0 0 1 9;");
            Kit.due("paid by law " + laws[i], Kit.work(y, "pay 0;"), 1);
            Kit.due("under it by law " + laws[i], y.slab(0, 1), Math.min(99, 59 + owes[i]));
            Kit.due("in the purse by law " + laws[i], y.soul(0, 2), 99 - owes[i]);
            Kit.due("under the other", y.slab(1, 1), 60);
            Kit.due("loans", y.told(2), 0);
            Kit.due("paid by now", y.told(11), 1);
        }
        Bounds.sentence(5, "if it is not OVERDUE, STANDING of its SOUL is 1 more (9 at most)");
        for (int standing : new int[] {0, 1, 7, 8, 9}) {
            CryptBank z = Kit.bank("slab 0 60;soul " + standing + " 99;soul 3 3;kin 0 0;");
            Kit.work(z, "lend 0 0 1 1;night;pay 0;");
            Kit.due("standing " + standing + ", paid in the night in which it is due", z.soul(0, 0),
                    Math.min(9, standing + 1));
            Kit.due("of the other", z.soul(1, 0), 3);
            z.undo();
            Kit.work(z, "lend 0 0 1 1;night;night;pay 0;");
            Kit.due("paid", z.told(2), 0);
            Kit.due("standing " + standing + ", paid a night too late", z.soul(0, 0), Math.max(0, standing - 1));
        }
    }

    private static void earn() {
        Bounds.sentence(5, "earn: N more are in the PURSE of A (300 at most; REFUSED, if there are 300)");
        String up = "earn 0 60;earn 0 60;earn 0 60;earn 0 19;";
        int[] more = {1, 2, 3, 59, 60};
        for (int n : more) {
            CryptBank x = Kit.bank("soul 0 99;soul 0 7;");
            Kit.due("up to 298", Kit.work(x, up), 4);
            Kit.due("298", x.soul(0, 2), 298);
            Kit.due("earn " + n, Kit.work(x, "earn 0 " + n + ";"), 1);
            Kit.due("then there are", x.soul(0, 2), Math.min(300, 298 + n));
            Kit.due("of the other", x.soul(1, 2), 7);
        }
        CryptBank y = Kit.bank("soul 0 0;");
        Kit.due("the least", Kit.work(y, "earn 0 1;"), 1);
        Kit.due("one", y.soul(0, 2), 1);
        Kit.due("up to 299", Kit.work(y, "earn 0 60;earn 0 60;earn 0 60;earn 0 60;earn 0 58;"), 5);
        Kit.due("299", y.soul(0, 2), 299);
        Kit.due("one more", Kit.work(y, "earn 0 1;"), 1);
        Kit.due("300", y.soul(0, 2), 300);
        isRefused(y, "earn 0 1;");
        isRefused(y, "earn 0 60;");
    }

    private static void sealAndOpen() {
        Bounds.sentence(5, "seal, open: P is SEALED, or no more (REFUSED, if it is, or is not)");
        CryptBank x = Kit.bank("slab 0 1;".repeat(8) + "soul 1 1;");
        isRefused(x, "open 0;");
        isRefused(x, "open 7;");
        Kit.due("the last slab", Kit.work(x, "seal 7;"), 1);
        Kit.due("its bit alone", x.told(4), 128);
        Kit.due("slab(7, 3)", x.slab(7, 3), 1);
        Kit.due("slab(6, 3)", x.slab(6, 3), 0);
        isRefused(x, "seal 7;");
        Kit.due("the first, too", Kit.work(x, "seal 0;"), 1);
        Kit.due("both bits", x.told(4), 129);
        Kit.due("opened", Kit.work(x, "open 7;"), 1);
        Kit.due("the first alone", x.told(4), 1);
        isRefused(x, "open 7;");
        Kit.due("sealed by a night", Kit.work(x, "lend 0 1 1 1;night;night;"), 3);
        isRefused(x, "seal 1;");
    }

    private static void night() {
        Bounds.sentence(5, "night (REFUSED from NIGHT 400 on): NIGHT is one more");
        CryptBank x = Kit.bank("slab 0 60;soul 5 5;");
        passNights(x, 2);
        Kit.due("398", x.told(3), 398);
        Kit.due("into 399", Kit.work(x, "night;"), 1);
        Kit.due("399", x.told(3), 399);
        Kit.due("into 400", Kit.work(x, "lend 0 0 1 1;night;"), 2);
        Kit.due("400", x.told(3), 400);
        isRefused(x, "night;");
        Kit.due("due in night 400, and it never gets later", x.told(7), 0);
        Kit.due("other steps are done", Kit.work(x, "earn 0 1;night;"), 1);
        Bounds.sentence(5, "then each LOAN, by its number, that is DUE in a NIGHT ahead of this one, and was not OVERDUE"
                + " yet, is OVERDUE");
        CryptBank y = Kit.bank("slab 0 60;slab 0 60;slab 0 60;soul 9 5;soul 9 5;");
        Kit.work(y, "lend 0 0 1 1;lend 1 1 1 2;lend 0 2 1 3;lend 1 0 1 2;");
        int[] overdue = {0, 0, 1, 11, 15, 15};
        for (int night = 0; night < overdue.length; night++) {
            Kit.due("in night " + night, y.told(7), overdue[night]);
            Kit.work(y, "night;");
        }
        Bounds.sentence(5, "STANDING of its SOUL is 1 less (0 at least), its SLAB is SEALED");
        CryptBank z = Kit.bank("slab 0 60;slab 0 60;soul 2 5;soul 2 5;");
        Kit.work(z, "lend 0 0 1 1;lend 0 0 1 1;lend 0 0 1 2;lend 1 0 1 9;night;");
        Kit.due("standing in time", z.soul(0, 0), 2);
        Kit.due("sealed in time", z.told(4), 0);
        Kit.work(z, "night;");
        Kit.due("2 less, once for each loan", z.soul(0, 0), 0);
        Kit.due("sealed", z.told(4), 1);
        Kit.work(z, "open 0;night;");
        Kit.due("0 at least", z.soul(0, 0), 0);
        Kit.due("sealed by the third", z.told(4), 1);
        Kit.work(z, "open 0;night;night;");
        Kit.due("opened, it stays so: each is overdue once", z.told(4), 0);
        Kit.due("the other stands as told", z.soul(1, 0), 2);
        Kit.work(z, "seal 0;again 9[night;];");
        Kit.due("the other's loan, of a sealed slab", z.soul(1, 0), 1);
        Kit.due("which is sealed still", z.told(4), 1);
    }

    private static void undo() {
        Bounds.sentence(8, "The latest WORK that was done is undone: how many are left");
        CryptBank x = Kit.bank("slab 0 60;soul 5 50;");
        String first = Look.state(x);
        Kit.work(x, "lend 0 0 5 1;night;night;seal 0;");
        String second = Look.state(x);
        Kit.work(x, "open 0;pay 0;earn 0 60;");
        String third = Look.state(x);
        Kit.work(x, "");
        Kit.work(x, "pay 9;open 0;");
        Kit.work(x, "nigh;");
        Kit.due("one of refused steps alone", x.undo(), 3);
        Kit.same("all is as ahead of it", Look.state(x), third);
        Kit.due("an empty one", x.undo(), 2);
        Kit.same("all is as ahead of it", Look.state(x), third);
        Kit.due("one more", x.undo(), 1);
        Kit.same("all is as ahead of it", Look.state(x), second);
        Kit.due("the first", x.undo(), 0);
        Kit.same("all is as ahead of it", Look.state(x), first);
        CryptBank full = Kit.bank("slab 0 60;soul 5 50;");
        for (int i = 1; i <= 16; i++) {
            Kit.work(full, "night;");
        }
        Kit.work(full, "night;");
        for (int left = 15; left >= 0; left--) {
            Kit.due("of 16", full.undo(), left);
            Kit.due("the night then", full.told(3), left);
        }
        Bounds.sentence(8, "-1: there is none");
        Kit.due("none of 16 is left", full.undo(), -1);
        Kit.due("none in a new object", new CryptBank().undo(), -1);
        CryptBank y = Lived.bank();
        y.undo();
        y.undo();
        String before = Look.at(y);
        Kit.due("none is left", y.undo(), -1);
        Kit.same("all stays", Look.at(y), before);
        Kit.due("the tape stays", y.count(1), Lived.BYTES);
        Kit.due("the fault stays", y.fault(), Lived.FAULT);
        Kit.due("it is no refused call", y.status(0) + y.status(1), 0);
    }

    private static void toldCounts() {
        Bounds.sentence(9, "0 SLABS, 1 SOULS, 2 LOANS, 3 the NIGHT");
        CryptBank x = new CryptBank();
        for (int what = 0; what <= 3; what++) {
            Kit.due("none at first: " + what, x.told(what), 0);
        }
        CryptBank y = Kit.bank("slab 0 60;".repeat(8) + "soul 9 99;".repeat(6));
        Kit.due("eight slabs", y.told(0), 8);
        Kit.due("six souls", y.told(1), 6);
        for (int i = 1; i <= 11; i++) {
            Kit.work(y, "lend 0 0 1 40;");
            Kit.due("loans", y.told(2), Math.min(10, i));
        }
        passNights(y, 2);
        Kit.work(y, "night;night;night;");
        Kit.due("night 400", y.told(3), 400);
        Bounds.sentence(9, "9 lines of the BOOK");
        Kit.due("none at first", y.told(9), 0);
        Kit.book(y, "0 0 1;".repeat(6));
        Kit.due("six", y.told(9), 6);
        Kit.book(y, "0 0 1;".repeat(7));
        Kit.due("six still", y.told(9), 6);
        Kit.book(y, "");
        Kit.due("none", y.told(9), 0);
    }

    private static void toldAtMost() {
        Bounds.sentence(9, "4 SLABS that are SEALED (bits)");
        CryptBank x = Kit.bank("slab 0 60;".repeat(8) + "soul 9 99;".repeat(6));
        Kit.work(x, "seal 0;seal 1;seal 2;seal 3;seal 4;seal 5;seal 6;seal 7;");
        Kit.due("all eight", x.told(4), 255);
        Bounds.sentence(9, "5 what is under all SLABS together");
        Kit.due("480 as told", x.told(5), 480);
        Kit.due("none in an empty county", new CryptBank().told(5), 0);
        CryptBank rich = Kit.bank("slab 0 60;".repeat(8) + "soul 9 99;".repeat(3));
        Kit.law(rich, "99");
        Kit.work(rich, "again 4[earn 0 60;earn 1 60;earn 2 60;];");
        Kit.work(rich, "lend 0 0 1 9;lend 0 1 1 9;lend 0 2 1 9;lend 1 3 1 9;lend 1 4 1 9;lend 1 5 1 9;lend 2 6 1 9;"
                + "lend 2 7 1 9;");
        Kit.due("8 less", rich.told(5), 472);
        Kit.due("all paid", Kit.work(rich, "again 8[pay 0;];"), 8);
        Kit.due("99 under each", rich.told(5), 792);
        Bounds.sentence(9, "6 what all LOANS OWE together now");
        CryptBank ten = tenLoans();
        Kit.law(ten, "999");
        Kit.due("200 for each", ten.told(6), 2000);
        Kit.law(ten, "0-999");
        Kit.due("0 for each", ten.told(6), 0);
        Bounds.sentence(9, "7 LOANS that are OVERDUE (bits)");
        Kit.work(ten, "again 10[night;];");
        Kit.due("all ten", ten.told(7), 1023);
        Bounds.sentence(9, "8 in all PURSES together");
        Kit.due("as told", x.told(8), 594);
        Kit.work(x, "again 4[earn 0 60;earn 1 60;earn 2 60;earn 3 60;earn 4 60;earn 5 60;];");
        Kit.due("300 in each", x.told(8), 1800);
        Kit.work(x, "open 7;lend 5 7 60 40;");
        Kit.due("a loan is in none", x.told(8), 1800);
        Bounds.sentence(9, "11 LOANS that were paid by now");
        CryptBank y = Kit.bank("slab 0 60;soul 9 99;");
        Kit.law(y, "1");
        Kit.due("ahead of any", y.told(11), 0);
        for (int i = 1; i <= 3; i++) {
            Kit.work(y, "again 30[lend 0 0 1 9;pay 0;];");
            Kit.due("paid by now", y.told(11), 30 * i);
        }
        Kit.due("undone", y.undo() + y.told(11), 2 + 60);
        Kit.county(y, "");
        Kit.due("in a new county", y.told(11), 0);
    }

    private static void toldRefused() {
        Bounds.sentence(9, "10 STEPS REFUSED by the latest WORK (0 ahead of any, behind undo(), restore())");
        CryptBank x = Kit.bank("slab 0 60;soul 9 99;");
        Kit.due("ahead of any", x.told(10), 0);
        Kit.work(x, "pay 0;pay 1;");
        Kit.due("two", x.told(10), 2);
        Kit.work(x, "pay 0;night;");
        Kit.due("of the latest alone", x.told(10), 1);
        Kit.work(x, "again 30[" + "pay 9;".repeat(7) + "];");
        Kit.due("as many as can be", x.told(10), 199);
        x.image();
        Kit.due("an image changes nothing", x.told(10), 199);
        Kit.due("undo()", x.undo(), 2);
        Kit.due("behind undo()", x.told(10), 0);
        Kit.work(x, "pay 0;");
        Kit.due("one", x.told(10), 1);
        Kit.due("restore()", x.restore(), 0);
        Kit.due("behind restore()", x.told(10), 0);
        Kit.work(x, "");
        Kit.due("of an empty one", x.told(10), 0);
        Kit.work(x, "pay 0;");
        Kit.due("another county", Kit.county(x, "") + x.told(10), 0);
    }

    private static void ofSlabSoulLoan() {
        Bounds.sentence(10, "4 its LOANS (bits), 5 its kin (bits of SOULS)");
        CryptBank x = Kit.bank("slab 0 60;slab 5 0;soul 9 0;" + "soul 9 99;".repeat(5) + "kin 0 0;kin 1 0;kin 2 0;kin 3 0;kin 4 0;"
                + "kin 5 0;");
        Kit.work(x, "again 10[lend 5 0 1 9;];");
        Kit.due("all ten", x.slab(0, 4), 1023);
        Kit.due("none", x.slab(1, 4), 0);
        Kit.due("all six", x.slab(0, 5), 63);
        Kit.due("no kin", x.slab(1, 5), 0);
        Bounds.sentence(10, "1 what is under it, 2 N as told, 3 1 SEALED, 0 not");
        Kit.due("by now", x.slab(0, 1), 50);
        Kit.due("as told", x.slab(0, 2), 60);
        Kit.due("nothing", x.slab(1, 2), 0);
        Kit.work(x, "seal 1;");
        Kit.due("sealed", x.slab(1, 3), 1);
        Kit.due("not sealed", x.slab(0, 3), 0);
        Bounds.sentence(11, "3 its LOANS (bits), 4 what it OWES in all now, 5 how much it has of LOANS (their N together)");
        Kit.due("all ten", x.soul(5, 3), 1023);
        Kit.due("none", x.soul(0, 3), 0);
        Kit.law(x, "999");
        Kit.due("200 for each", x.soul(5, 4), 2000);
        Kit.due("nothing for none", x.soul(0, 4), 0);
        Kit.due("ten", x.soul(5, 5), 10);
        Kit.due("nothing", x.soul(0, 5), 0);
        Bounds.sentence(12, "5 1 OVERDUE, 0 not, 6 what it OWES now");
        Kit.due("not overdue", x.loan(9, 5), 0);
        Kit.due("200 at most", x.loan(9, 6), 200);
        Kit.work(x, "again 9[night;];");
        Kit.due("not in the night in which it is due", x.loan(9, 5), 0);
        Kit.work(x, "night;");
        Kit.due("in the next", x.loan(9, 5), 1);
        Kit.law(x, "0-1");
        Kit.due("0 at least", x.loan(9, 6), 0);
    }

    private static void image() {
        Bounds.sentence(38, "An IMAGE of all that WORK changes, and of the WORKS that can be undone: how many there are");
        CryptBank x = Kit.bank("slab 0 60;soul 9 99;");
        Kit.due("of nothing yet", x.image(), 1);
        for (int i = 0; i < 16; i++) {
            Kit.work(x, "night;");
        }
        Kit.due("of 16 works", x.image(), 2);
        for (int left = 15; left >= 0; left--) {
            Kit.due("undone", x.undo(), left);
        }
        for (int i = 0; i < 16; i++) {
            Kit.work(x, "earn 0 9;seal 0;");
        }
        Kit.law(x, "7");
        Kit.due("restored", x.restore(), 1);
        Kit.due("16 works", x.count(2), 16);
        Kit.due("which are as many as can be", Kit.work(x, "night;"), -20);
        Kit.due("the law is none of it", x.would(1, 0, 0, 0, 0, 0, 0, 0), 7);
        for (int left = 15; left >= 0; left--) {
            Kit.due("undone", x.undo(), left);
            Kit.due("the night then", x.told(3), left);
            Kit.due("the purse then", x.soul(0, 2), 99);
            Kit.due("sealed then", x.told(4), 0);
        }
        Bounds.sentence(38, "-1: there are 3");
        CryptBank y = Lived.bank();
        Kit.due("the second", y.image(), 2);
        Kit.due("the third", y.image(), 3);
        String before = Look.at(y);
        Kit.due("a fourth", y.image(), -1);
        Kit.same("all stays", Look.at(y), before);
        Kit.due("images", y.count(0), 3);
        Kit.due("the tape stays", y.count(1), Lived.BYTES);
        Kit.due("the fault stays", y.fault(), Lived.FAULT);
        Kit.due("it is no refused call", y.status(0) + y.status(1), 0);
        Kit.work(y, "night;");
        Kit.due("one is gone", y.restore(), 2);
        Kit.due("there is room again", y.image(), 3);
        Kit.due("and no more", y.image(), -1);
    }

    private static void restore() {
        Bounds.sentence(39, "All is as in the latest IMAGE, which is gone: how many are left");
        CryptBank x = Kit.bank("slab 0 60;soul 9 99;");
        String[] states = new String[3];
        for (int i = 0; i < 3; i++) {
            Kit.work(x, "lend 0 0 " + (i + 1) + " 1;night;");
            states[i] = Look.state(x);
            Kit.due("image", x.image(), i + 1);
        }
        Kit.work(x, "seal 0;earn 0 9;pay 1;");
        for (int i = 2; i >= 0; i--) {
            Kit.due("restore", x.restore(), i);
            Kit.same("the state then", Look.state(x), states[i]);
            Kit.due("works then", x.count(2), i + 1);
            Kit.due("images then", x.count(0), i);
        }
        Bounds.sentence(39, "-1: there is none");
        Kit.due("none is left", x.restore(), -1);
        Kit.same("the state stays", Look.state(x), states[0]);
        Kit.due("works stay", x.count(2), 1);
        Kit.due("none in a new object", new CryptBank().restore(), -1);
        CryptBank y = Lived.bank();
        y.restore();
        String before = Look.at(y);
        Kit.due("none", y.restore(), -1);
        Kit.same("all stays", Look.at(y), before);
        Kit.due("the tape stays", y.count(1), Lived.BYTES);
        Kit.due("the fault stays", y.fault(), Lived.FAULT);
        Kit.due("it is no refused call", y.status(0) + y.status(1), 0);
        CryptBank z = Lived.untaped();
        Kit.county(z, "slab 0 0;");
        Kit.due("a county leaves none", z.restore(), -1);
    }

    private static void status() {
        Bounds.sentence(40, "How many calls were refused: 0 NoSuchElementException, 1 IllegalArgumentException");
        CryptBank x = Kit.bank("slab 0 60;soul 9 99;");
        Kit.due("none yet", x.status(0), 0);
        Kit.due("none yet", x.status(1), 0);
        Kit.noSuch("one", () -> x.slab(1, 9));
        Kit.due("no such", x.status(0), 1);
        Kit.due("illegal", x.status(1), 0);
        Kit.illegal("another", () -> x.slab(0, 9));
        Kit.illegal("one more", () -> x.law(1));
        Kit.due("no such", x.status(0), 1);
        Kit.due("illegal", x.status(1), 2);
        Kit.due("faults are none", Kit.law(x, "x"), -9);
        Kit.due("answers of -1 are none", x.undo() + x.restore() + x.count(9), -3);
        Kit.due("refused steps are none", Kit.work(x, "pay 0;open 0;"), 0);
        Kit.due("no such", x.status(0), 1);
        Kit.due("illegal", x.status(1), 2);
        Bounds.sentence(40, "NONE for others");
        for (int what : new int[] {-1, 2, 3, Integer.MIN_VALUE, Integer.MAX_VALUE}) {
            Kit.due("status(" + what + ")", x.status(what), -1);
        }
        Kit.due("which are no refused calls", x.status(0) + x.status(1), 3);
        Lived.isAnswered("status(2)", b -> b.status(2));
        Bounds.sentence(40, "(No IMAGE keeps it.)");
        x.image();
        Kit.noSuch("behind the image", () -> x.soul(1, 0));
        Kit.illegal("behind the image", () -> x.soul(0, -1));
        x.restore();
        Kit.due("no such, behind restore()", x.status(0), 2);
        Kit.due("illegal, behind restore()", x.status(1), 3);
        x.undo();
        Kit.due("no such, behind undo()", x.status(0), 2);
        Kit.due("illegal, behind undo()", x.status(1), 3);
    }

    private static void count() {
        Bounds.sentence(41, "0 IMAGES, 1 bytes of the TAPE, 2 WORKS that can be undone");
        CryptBank x = new CryptBank();
        Kit.due("no images", x.count(0), 0);
        Kit.due("no bytes", x.count(1), 0);
        Kit.due("no works", x.count(2), 0);
        for (int i = 1; i <= 4; i++) {
            x.image();
            Kit.due("images", x.count(0), Math.min(3, i));
        }
        for (int i = 1; i <= 17; i++) {
            x.work(0);
            Kit.due("works", x.count(2), Math.min(16, i));
        }
        for (int i = 1; i <= 31; i++) {
            x.feed(0, 0, 0, 0, 0);
            Kit.due("bytes", x.count(1), Math.min(600, 20 * i));
        }
        x.undo();
        Kit.due("works behind undo()", x.count(2), 15);
        x.restore();
        Kit.due("images behind restore()", x.count(0), 2);
        Kit.due("works behind restore()", x.count(2), 0);
        Kit.due("bytes behind both", x.count(1), 600);
        Bounds.sentence(41, "NONE for others");
        for (int what : new int[] {-1, 3, 4, Integer.MIN_VALUE, Integer.MAX_VALUE}) {
            Kit.due("count(" + what + ")", x.count(what), -1);
        }
        Kit.due("which are no refused calls", x.status(0) + x.status(1), 0);
        Lived.isAnswered("count(3)", b -> b.count(3));
    }
}
