import java.util.Arrays;

/** Part 1 of the Terms and promises 1 to 7, sentence by sentence: the TAPE, the four texts, their FAULTS. */
final class TextBounds {
    private static final String TOWN = "slab 0 20;slab 1 30;soul 2 40;soul 0 10;kin 1 1;";

    private TextBounds() {
    }

    static void all() {
        object();
        feed();
        countyText();
        countyNumbers();
        countyCall();
        lawText();
        lawNames();
        lawValues();
        lawCall();
        workText();
        workCall();
        bookText();
        bookCall();
        signs();
        faultsOfOneKind();
        faultsTooMany();
        faultCall();
    }

    private static String blanks(int many) {
        return " ".repeat(many);
    }

    private static void object() {
        Bounds.sentence(1, "A COUNTY without CLAUSES");
        CryptBank x = new CryptBank();
        CryptBank y = new CryptBank();
        Kit.due("county(0)", y.county(0), 0);
        Kit.same("a new object is as one by an empty text", Look.through(x), Look.through(y));
        Kit.due("fault()", x.fault(), -1);
        Kit.due("bytes", x.count(1), 0);
        Kit.due("refusals", x.status(0) + x.status(1), 0);
        Bounds.sentence(1, "An object is used for at most 512 calls after it has been made");
        CryptBank z = Kit.bank("soul 1 99;");
        // Feeding and reading were two calls.
        for (int call = 3; call <= 510; call++) {
            Kit.illegal("call " + call, () -> z.told(-1));
        }
        Kit.due("call 511", z.status(1), 508);
        Kit.due("call 512", z.worth(0), 99);
    }

    private static void feed() {
        Bounds.sentence(2, "Twenty bytes come on the TAPE, of each number the highest first: how many there are");
        CryptBank x = new CryptBank();
        Kit.due("the first twenty", x.feed(0x736c6162, 0x20352036, 0x303b736f, 0x756c2039, 0x2039393b), 20);
        Kit.due("all twenty are read: slabs", x.county(20), 1);
        Kit.due("their kind", x.slab(0, 0), 5);
        Kit.due("under them", x.slab(0, 1), 60);
        Kit.due("the soul behind", x.soul(0, 1), 9);
        Kit.due("the last bytes", x.soul(0, 2), 99);
        Kit.due("twenty more on an empty tape", x.feed(-1, Integer.MIN_VALUE, Integer.MAX_VALUE, 0, 1), 20);
        Kit.due("and twenty more", x.feed(0, 0, 0, 0, 0), 40);
        Bounds.sentence(2, "NONE, doing nothing, if there would be more than 600");
        CryptBank full = Kit.bank(TOWN);
        Kit.feed(full, blanks(571));
        Kit.due("580 bytes", full.count(1), 580);
        Kit.due("600 bytes are no more than 600", full.feed(0x20202020, 0x20202020, 0x20202020, 0x20202020, 0x20202020),
                600);
        Kit.due("one row more", full.feed(0x20202020, 0x20202020, 0x20202020, 0x20202020, 0x20202020), -1);
        Kit.due("bytes then", full.count(1), 600);
        Kit.due("it is no refused call", full.status(0) + full.status(1), 0);
        Kit.due("slabs stay", full.told(0), 2);
        // The row from 560 on was filled up with zeros, which can't stand.
        Kit.due("what stood there stands there", full.county(600), -9);
        Kit.due("at its place", full.fault(), 571);
    }

    private static void countyText() {
        Bounds.sentence(3, "A COUNTY is a text of up to 600 bytes");
        String end = "slab 5 1;";
        Lived.isFine(Kit::county, "", 0);
        Lived.isFine(Kit::county, blanks(590) + end, 1);
        Lived.isFine(Kit::county, blanks(591) + end, 1);
        CryptBank x = new CryptBank();
        Kit.due("not all of 620 come on the tape", Kit.feed(x, blanks(611) + end), 620);
        Kit.illegal("601 bytes", () -> x.county(601));
        Bounds.sentence(3, "{ CLAUSE \";\" }, at most 60");
        String two = "soul 0 0;slab 0 0;";
        Lived.isFine(Kit::county, two + "kin 0 0;".repeat(57), 1);
        Lived.isFine(Kit::county, two + "kin 0 0;".repeat(58), 1);
        Lived.isFaulty(Kit::county, two + "kin 0 0;".repeat(59), 3, 18 + 58 * 8);
        Lived.isFaulty(Kit::county, ";", 1, 0);
        Lived.isFaulty(Kit::county, "slab 0 0;;", 1, 9);
        Lived.isFaulty(Kit::county, "slab 0 0 soul 0 0;", 1, 9);
        Bounds.sentence(3, "CLAUSE: \"slab\" K N (SLABS, numbered from 0 on, 8 at most:");
        Lived.isFine(Kit::county, "slab 0 0;".repeat(7), 7);
        Lived.isFaulty(Kit::county, "slab 0 0;".repeat(9), 3, 72);
        CryptBank eight = Kit.bank("slab 0 0;slab 0 1;slab 0 2;slab 0 3;slab 0 4;slab 0 5;slab 0 6;slab 0 7;");
        Kit.due("8 slabs", eight.told(0), 8);
        for (int slab = 0; slab < 8; slab++) {
            Kit.due("slab " + slab, eight.slab(slab, 1), slab);
        }
        Kit.noSuch("slab(8, 1)", () -> eight.slab(8, 1));
        Bounds.sentence(3, "\"soul\" S N (SOULS likewise, 6:");
        Lived.isFine(Kit::county, "soul 0 0;".repeat(5), 0);
        Lived.isFaulty(Kit::county, "soul 0 0;".repeat(7), 3, 54);
        CryptBank six = Kit.bank("soul 0 0;soul 0 1;soul 0 2;soul 0 3;soul 0 4;soul 0 5;");
        Kit.due("6 souls", six.told(1), 6);
        for (int soul = 0; soul < 6; soul++) {
            Kit.due("soul " + soul, six.soul(soul, 2), soul);
        }
        Kit.noSuch("soul(6, 2)", () -> six.soul(6, 2));
    }

    private static void countyNumbers() {
        Bounds.sentence(3, "KIND K, 0 to 5");
        CryptBank x = Kit.bank("slab 0 7;slab 1 7;slab 4 7;slab 5 7;");
        Kit.due("0, 1, 4, 5", x.slab(0, 0) * 1000 + x.slab(1, 0) * 100 + x.slab(2, 0) * 10 + x.slab(3, 0), 145);
        Lived.isFaulty(Kit::county, "slab 6 0;", 2, 5);
        Bounds.sentence(3, "there are N under it, 0 to 60");
        CryptBank y = Kit.bank("slab 3 0;slab 3 1;slab 3 59;slab 3 60;");
        Kit.due("0", y.slab(0, 1), 0);
        Kit.due("1", y.slab(1, 1), 1);
        Kit.due("59", y.slab(2, 1), 59);
        Kit.due("60", y.slab(3, 1), 60);
        Lived.isFaulty(Kit::county, "slab 0 61;", 2, 7);
        Bounds.sentence(3, "STANDING S, 0 to 9");
        CryptBank z = Kit.bank("soul 0 7;soul 1 7;soul 8 7;soul 9 7;");
        Kit.due("0, 1, 8, 9", z.soul(0, 0) * 1000 + z.soul(1, 0) * 100 + z.soul(2, 0) * 10 + z.soul(3, 0), 189);
        Lived.isFaulty(Kit::county, "soul 10 0;", 2, 5);
        Bounds.sentence(3, "N in the PURSE, 0 to 99");
        CryptBank w = Kit.bank("soul 3 0;soul 3 1;soul 3 98;soul 3 99;");
        Kit.due("0", w.soul(0, 2), 0);
        Kit.due("1", w.soul(1, 2), 1);
        Kit.due("98", w.soul(2, 2), 98);
        Kit.due("99", w.soul(3, 2), 99);
        Lived.isFaulty(Kit::county, "soul 0 100;", 2, 7);
        Bounds.sentence(3, "or \"kin\" A P (SOUL A is kin to SLAB P, both told ahead");
        CryptBank kin = Kit.bank("soul 0 0;soul 0 0;slab 0 0;slab 0 0;slab 0 0;kin 1 0;kin 0 2;kin 1 2;soul 0 0;");
        Kit.due("of slab 0", kin.slab(0, 5), 2);
        Kit.due("of slab 1", kin.slab(1, 5), 0);
        Kit.due("of slab 2", kin.slab(2, 5), 3);
        Lived.isFaulty(Kit::county, "soul 0 0;slab 0 0;kin 1 0;soul 0 0;", 2, 22);
        Lived.isFaulty(Kit::county, "soul 0 0;slab 0 0;kin 0 1;slab 0 0;", 2, 24);
        Lived.isFaulty(Kit::county, "kin 0 0;soul 0 0;slab 0 0;", 2, 4);
        Lived.isFaulty(Kit::county, "soul 0 0;kin 0 0;slab 0 0;", 2, 15);
        CryptBank most = Kit.bank("slab 0 1;".repeat(8) + "soul 0 0;".repeat(6) + "kin 5 7;kin 0 7;");
        Kit.due("the last soul, the last slab", most.slab(7, 5), 33);
        Bounds.sentence(3, "told once more it is as once");
        CryptBank once = Kit.bank("slab 0 9;soul 0 0;soul 0 0;kin 1 0;kin 1 0;kin 1 0;");
        Kit.due("kin", once.slab(0, 5), 2);
        Kit.due("lends", once.trust(0, 9), 2);
    }

    private static void countyCall() {
        Bounds.sentence(3, "The first n bytes of the TAPE (empty then) are the COUNTY");
        CryptBank x = new CryptBank();
        Kit.feed(x, "slab 0 0;slab 0 0;slab 0 0;");
        Kit.due("18 of 40 bytes", x.county(18), 2);
        Kit.due("the rest is gone", x.count(1), 0);
        Kit.feed(x, "slab 0 59;");
        Kit.due("a number that is cut off", x.county(8), -9);
        Kit.due("at the length", x.fault(), 8);
        Kit.feed(x, "slab 0 0;");
        Kit.due("a word that is cut off", x.county(3), -9);
        Kit.due("at its first byte", x.fault(), 0);
        Kit.feed(x, "slab 0 0;");
        Kit.due("none of 20 bytes", x.county(0), 0);
        Kit.due("the rest is gone, too", x.count(1), 0);
        Kit.due("slabs are gone", x.told(0), 0);
        Bounds.sentence(3, "(no LAW, BOOK, IMAGES, nothing to undo): how many SLABS");
        CryptBank y = Lived.untaped();
        Kit.due("one slab", Kit.county(y, "slab 5 9;"), 1);
        CryptBank fresh = Kit.bank("slab 5 9;");
        Kit.due("undo()", y.undo(), -1);
        Kit.due("restore()", y.restore(), -1);
        Kit.same("as of a new object", Look.through(y), Look.through(fresh));
        Kit.due("other slabs, other souls", Kit.county(y, "slab 0 1;slab 0 2;soul 0 3;soul 0 4;"), 2);
        Kit.due("no kin", y.slab(0, 5) + y.slab(1, 5), 0);
        Kit.due("no slabs", Kit.county(y, "soul 0 0;"), 0);
        Kit.due("8 slabs", Kit.county(y, "slab 0 0;".repeat(8)), 8);
        Bounds.sentence(3, "or the FAULT less 10 (all stays)");
        Lived.isFaulty(Kit::county, "slab 0 0;slab", 1, 13);
        Lived.isFaulty(Kit::county, "slab 0 0;soul 5 100;", 2, 16);
        Lived.isFaulty(Kit::county, "slab 0 0;soul 0 0;kin 0 0;" + "slab 1 1;".repeat(8), 3, 26 + 63);
        Bounds.sentence(3, "IllegalArgumentException: n is not 0 to the TAPE's bytes (it stays)");
        for (int n : new int[] {-1, Lived.BYTES + 1, Integer.MIN_VALUE, Integer.MAX_VALUE}) {
            Lived.isIllegal("county(" + n + ")", b -> b.county(n));
        }
        CryptBank empty = new CryptBank();
        Kit.illegal("1 of an empty tape", () -> empty.county(1));
        Kit.due("0 of an empty tape", empty.county(0), 0);
        Kit.feed(empty, "slab 0 0;" + blanks(11));
        Kit.due("all of the tape", empty.county(20), 1);
        Kit.feed(empty, "slab 0 0;" + blanks(11));
        Kit.due("all of it but one", empty.county(19), 1);
    }

    private static void lawText() {
        Bounds.sentence(4, "A LAW is a text of up to 150 bytes");
        Lived.isFine(Kit::law, "1" + "+1".repeat(74), 1);
        Lived.isFine(Kit::law, "11" + "+1".repeat(74), 1);
        CryptBank x = new CryptBank();
        Kit.feed(x, "111" + "+1".repeat(74));
        Kit.illegal("151 bytes", () -> x.law(151));
        Kit.due("150 of them", x.law(150), -9);
        Kit.due("which end behind a +", x.fault(), 150);
        Kit.law(x, "11" + "+1".repeat(74));
        Kit.due("by the longest law", law(x), 85);
        Bounds.sentence(4, "E, at the end nothing more");
        Lived.isFine(Kit::law, "1 ", 1);
        Lived.isFaulty(Kit::law, "1 1", 1, 2);
        Lived.isFaulty(Kit::law, "1)", 1, 1);
        Lived.isFaulty(Kit::law, "1;", 1, 1);
        Lived.isFaulty(Kit::law, "kind kind", 1, 5);
        Lived.isFaulty(Kit::law, "", 1, 0);
        Bounds.sentence(4, "without: amount + amount * nights / 10 + 1");
        CryptBank y = new CryptBank();
        Kit.due("9 * 1 / 10 is cut to 0", y.would(9, 1, 0, 0, 0, 0, 0, 0), 10);
        Kit.due("10 * 1 / 10", y.would(10, 1, 5, 1, 9, 99, 999, 5), 12);
        Kit.due("nights 0", y.would(60, 0, 0, 0, 0, 0, 0, 0), 61);
        Bounds.sentence(4, "OWES, what must be brought back for a LOAN: what comes out, 0 at least, 200 at most");
        int[] comes = {-999, -1, 0, 1, 199, 200, 201, 998001};
        String[] laws = {"0-999", "0-1", "0", "1", "199", "200", "201", "999*999"};
        for (int i = 0; i < laws.length; i++) {
            due(laws[i], Math.max(0, Math.min(200, comes[i])));
        }
        Bounds.sentence(4, "E: T { + or - T }. T: U { * or / or % U }");
        due("9-5-3", 1);
        due("9-5+3", 7);
        due("99/7/2", 7);
        due("99/7*7", 98);
        due("2+3*4", 14);
        due("100-99%10*2", 82);
        Lived.isFaulty(Kit::law, "+1", 1, 0);
        Lived.isFaulty(Kit::law, "1+", 1, 2);
        Lived.isFaulty(Kit::law, "1+-1", 1, 2);
        Lived.isFaulty(Kit::law, "1-", 1, 2);
        Lived.isFaulty(Kit::law, "1*", 1, 2);
        Lived.isFaulty(Kit::law, "1/", 1, 2);
        Lived.isFaulty(Kit::law, "1%", 1, 2);
        Lived.isFaulty(Kit::law, "1*/1", 1, 2);
        Lived.isFaulty(Kit::law, "1*1000", 2, 2);
        Lived.isFaulty(Kit::law, "1+2*1000", 2, 4);
        Bounds.sentence(4, "U: N (0 to 999)");
        due("0", 0);
        due("1", 1);
        due("998-900", 98);
        due("999-900", 99);
        Lived.isFaulty(Kit::law, "1000-900", 2, 0);
        Bounds.sentence(4, "\"least\" \"[\" E \",\" E \"]\", \"most\" \"[\" E \",\" E \"]\", or \"(\" E \")\"");
        due("least[3,4]", 3);
        due("least[4,3]", 3);
        due("least[5,5]", 5);
        due("most[3,4]", 4);
        due("most[4,3]", 4);
        due("most[0-2,0-1]+5", 4);
        due("least[1+1,2*3]*(4-1)", 6);
        Lived.isFaulty(Kit::law, "least[]", 1, 6);
        Lived.isFaulty(Kit::law, "most[1]", 1, 6);
        Lived.isFaulty(Kit::law, "most[1,]", 1, 7);
        Lived.isFaulty(Kit::law, "least[1,2", 1, 9);
        Lived.isFaulty(Kit::law, "least[1,2,3]", 1, 9);
        Lived.isFaulty(Kit::law, "least(1,2)", 1, 5);
        Lived.isFaulty(Kit::law, "()", 1, 1);
        Lived.isFaulty(Kit::law, "(1]", 1, 2);
    }

    private static int law(CryptBank x) {
        return x.would(11, 22, 3, 1, 4, 55, 66, 5);
    }

    private static void due(String text, int value) {
        CryptBank x = new CryptBank();
        Kit.due("law '" + text + "'", Kit.law(x, text), 1);
        Kit.due("what comes out of '" + text + "'", law(x), value);
    }

    /** What each name stands for is looked at where it is least, where it is most, and for LOANS that are there. */
    private static void lawNames() {
        String[] names = {"amount", "nights", "kind", "kin", "standing", "left", "night", "soul"};
        String[] stands = {"(of the LOAN)", "(since it was taken)", "(of the SLAB)", "(1: the SOUL is kin to it, 0 not)",
            "(of the SOUL by now)", "(under the SLAB by now)", "(the NIGHT)", "(its number)"};
        int[] a = {1, 0, 0, 0, 0, 0, 0, 0};
        int[] b = {60, 999, 5, 1, 9, 99, 999, 5};
        CryptBank x = Kit.bank("slab 4 50;slab 5 60;soul 9 9;soul 2 99;soul 3 0;kin 1 1;");
        Kit.work(x, "night;lend 1 1 60 1;lend 2 0 7 40;lend 1 0 1 9;night;night;lend 2 0 1 1;");
        // Loan 0 is overdue in night 3: its soul stands at 1 by now, nothing is left under slab 1.
        int[][] facts = {{60, 2, 5, 1, 1, 0, 3, 1}, {7, 2, 4, 0, 3, 41, 3, 2}, {1, 2, 4, 0, 1, 41, 3, 1},
            {1, 0, 4, 0, 3, 41, 3, 2}};
        for (int i = 0; i < names.length; i++) {
            Bounds.sentence(4, "\"" + names[i] + "\" " + stands[i]);
            Kit.law(x, names[i] + "/9");
            Kit.due("by 9, at most", x.would(b[0], b[1], b[2], b[3], b[4], b[5], b[6], b[7]), b[i] / 9);
            Kit.law(x, names[i] + "+50");
            Kit.due("and 50, at least", x.would(a[0], a[1], a[2], a[3], a[4], a[5], a[6], a[7]), a[i] + 50);
            for (int loan = 0; loan < facts.length; loan++) {
                Kit.due("and 50, of loan " + loan, x.loan(loan, 6), facts[loan][i] + 50);
            }
        }
    }

    private static void lawValues() {
        Bounds.sentence(4, "Values are whole numbers of 32 bits that wrap");
        // 2 to the 31st wraps to the least of all; less 1 it is the greatest, which by 999, 999, 20 is 107.
        String least = "128*128*128*128*8";
        due("(" + least + ")/999/999/20", 0);
        due("0-(" + least + ")/999/999/20", 107);
        due("(" + least + "-1)/999/999/20", 107);
        due("0-(" + least + "-1+1)/999/999/20", 107);
        due("(0-(" + least + "))/999/999/20+9", 0);
        due("0-(0-(" + least + "))/999/999/20", 107);
        due("0-(" + least + ")/(0-1)/999/999/20", 107);
        due("(" + least + ")%(0-1)+3", 3);
        due("128*128*128*128*16", 0);
        due("128*128*128*128*16+7", 7);
        due("999*999*999*5/999/999/5", 690047699 / 999 / 999 / 5);
        Bounds.sentence(4, "/ cuts, % leaves (with the sign of what is divided), by 0 both are 0");
        due("7/2", 3);
        due("6/7", 0);
        due("9+(0-7)/2", 6);
        due("9+7/(0-2)", 6);
        due("9+(0-7)/(0-2)", 12);
        due("7%2", 1);
        due("9+(0-7)%4", 6);
        due("9+7%(0-4)", 12);
        due("9+(0-7)%(0-4)", 6);
        due("9+7/0", 9);
        due("9+7%0", 9);
        due("9+(0-7)/(1-1)", 9);
        due("9+0/0+0%0", 9);
        due("9+7/1", 16);
        due("9+7%1", 9);
    }

    private static void lawCall() {
        Bounds.sentence(4, "Likewise the LAW (n to 150): 1");
        for (int n : new int[] {-1, Lived.BYTES + 1, Integer.MIN_VALUE, Integer.MAX_VALUE}) {
            Lived.isIllegal("law(" + n + ")", b -> b.law(n));
        }
        CryptBank x = Kit.bank(TOWN);
        Kit.feed(x, "7" + blanks(159));
        Kit.illegal("151 of 160", () -> x.law(151));
        Kit.due("the tape stays", x.count(1), 160);
        Kit.due("150 of 160", x.law(150), 1);
        Kit.due("the tape is empty then", x.count(1), 0);
        Kit.due("by it", law(x), 7);
        Kit.feed(x, "8" + blanks(139));
        Kit.illegal("141 of 140", () -> x.law(141));
        Kit.due("140 of 140", x.law(140), 1);
        Kit.due("by it", law(x), 8);
        Kit.feed(x, "78");
        Kit.due("one digit of two", x.law(1), 1);
        Kit.due("by it", law(x), 7);
        Kit.feed(x, "kinds");
        Kit.due("three letters of five", x.law(3), 1);
        Kit.due("by them", law(x), 1);
        Kit.law(x, "8");
        Kit.due("0 of an empty tape", x.law(0), -9);
        Kit.due("its fault", x.fault(), 0);
        Kit.illegal("1 of an empty tape", () -> x.law(1));
        Kit.due("the law stays", law(x), 8);
        Kit.due("slabs stay", x.told(0), 2);
        Lived.isFaulty(Kit::law, "amount+", 1, 7);
        Lived.isFaulty(Kit::law, "amount+1000", 2, 7);
        Lived.isFaulty(Kit::law, "amount+(((((((1", 3, 13);
    }

    private static void workText() {
        Bounds.sentence(5, "WORK is a text of up to 150 bytes: { STEP \";\" }");
        Lived.isFine(Kit::work, "", 0);
        Lived.isFine(Kit::work, blanks(143) + "night;", 1);
        Lived.isFine(Kit::work, "night;".repeat(25), 25);
        // As many steps as 150 bytes can hold; the last of them is done.
        Lived.isFine(Kit::work, "pay9;".repeat(29) + "pay0;", 1);
        CryptBank x = new CryptBank();
        Kit.feed(x, blanks(145) + "night;");
        Kit.illegal("151 bytes", () -> x.work(151));
        Lived.isFaulty(Kit::work, "night;night", 1, 11);
        Lived.isFaulty(Kit::work, ";", 1, 0);
        Lived.isFaulty(Kit::work, "night;;", 1, 6);
        Bounds.sentence(5, "STEP: \"lend\" A P N T (N 1 to 60, T 1 to 40)");
        CryptBank y = Kit.bank("slab 0 60;slab 0 60;soul 9 0;soul 9 0;");
        Kit.due("the least of all", Kit.work(y, "lend 0 0 1 1;lend 0 0 2 2;"), 2);
        Kit.due("N 1", y.loan(0, 2), 1);
        Kit.due("T 1", y.loan(0, 4), 1);
        Kit.due("the most of all", Kit.work(y, "lend 1 1 60 40;"), 1);
        Kit.due("A", y.loan(2, 0), 1);
        Kit.due("P", y.loan(2, 1), 1);
        Kit.due("N 60", y.loan(2, 2), 60);
        Kit.due("T 40", y.loan(2, 4), 40);
        Kit.due("just inside", Kit.work(y, "lend 0 0 57 39;"), 1);
        Lived.isFaulty(Kit::work, "lend 2 0 1 1;", 2, 5);
        Lived.isFaulty(Kit::work, "lend 0 2 1 1;", 2, 7);
        Lived.isFaulty(Kit::work, "lend 0 0 0 1;", 2, 9);
        Lived.isFaulty(Kit::work, "lend 0 0 61 1;", 2, 9);
        Lived.isFaulty(Kit::work, "lend 0 0 1 0;", 2, 11);
        Lived.isFaulty(Kit::work, "lend 0 0 1 41;", 2, 11);
        Bounds.sentence(5, "\"pay\" L (0 to 9)");
        Lived.isFine(Kit::work, "pay 9;", 0);
        Lived.isFine(Kit::work, "pay 0;", 1);
        Lived.isFaulty(Kit::work, "pay 10;", 2, 4);
        Lived.isFaulty(Kit::work, "pay;", 1, 3);
        Bounds.sentence(5, "\"earn\" A N (1 to 60)");
        Lived.isFine(Kit::work, "earn 0 1;earn 0 2;earn 1 59;earn 1 60;", 4);
        Lived.isFaulty(Kit::work, "earn 2 1;", 2, 5);
        Lived.isFaulty(Kit::work, "earn 0 0;", 2, 7);
        Lived.isFaulty(Kit::work, "earn 0 61;", 2, 7);
        Bounds.sentence(5, "\"seal\" P, \"open\" P, \"night\"");
        Lived.isFine(Kit::work, "open 0;seal 0;seal 1;open 1;night;", 5);
        Lived.isFaulty(Kit::work, "seal 2;", 2, 5);
        Lived.isFaulty(Kit::work, "open 2;", 2, 5);
        Lived.isFaulty(Kit::work, "night 1;", 1, 6);
        CryptBank none = new CryptBank();
        Kit.due("no slab at all", Kit.work(none, "seal 0;"), -8);
        Kit.due("no soul at all", Kit.work(none, "earn 0 1;"), -8);
        Kit.due("nights need none", Kit.work(none, "night;"), 1);
        Bounds.sentence(5, "or \"again\" N \"[\" { STEP \";\" } \"]\" (N 0 to 30)");
        Lived.isFine(Kit::work, "again 0[night;];", 0);
        Lived.isFine(Kit::work, "again 1[night;];", 1);
        Lived.isFine(Kit::work, "again 29[night;];", 29);
        Lived.isFine(Kit::work, "again 30[night;];", 30);
        Lived.isFine(Kit::work, "again 30[];", 0);
        Lived.isFine(Kit::work, "again 2[again 3[night;];night;];night;", 9);
        Lived.isFaulty(Kit::work, "again 31[night;];", 2, 6);
        Lived.isFaulty(Kit::work, "again 1[night];", 1, 13);
        Lived.isFaulty(Kit::work, "again 1[night;]", 1, 15);
        Lived.isFaulty(Kit::work, "again 1[night;", 1, 14);
        Lived.isFaulty(Kit::work, "again 1[night;;", 1, 14);
        Lived.isFaulty(Kit::work, "again 1 night;", 1, 8);
        Lived.isFaulty(Kit::work, "again[night;];", 1, 5);
        Lived.isFaulty(Kit::work, "];", 1, 0);
        Lived.isFaulty(Kit::work, "again 1[];];", 1, 10);
    }

    private static void workCall() {
        Bounds.sentence(5, "Likewise WORK (n to 150), which is done: how many STEPS were done (agains not counted, nor"
                + " REFUSED ones)");
        for (int n : new int[] {-1, Lived.BYTES + 1, Integer.MIN_VALUE, Integer.MAX_VALUE}) {
            Lived.isIllegal("work(" + n + ")", b -> b.work(n));
        }
        CryptBank x = Kit.bank(TOWN);
        Kit.feed(x, "night;" + blanks(154));
        Kit.illegal("151 of 160", () -> x.work(151));
        Kit.due("the tape stays", x.count(1), 160);
        Kit.due("150 of 160", x.work(150), 1);
        Kit.due("the tape is empty then", x.count(1), 0);
        Kit.due("0 of an empty tape", x.work(0), 0);
        Kit.due("that is a work, too", x.count(2), 2);
        Kit.illegal("1 of an empty tape", () -> x.work(1));
        Kit.due("two done, three refused, two agains", Kit.work(x, "again 1[seal 0;seal 0;again 1[night;];open 1;pay 0;];"),
                2);
        Kit.due("none done, all refused", Kit.work(x, "seal 0;pay 0;"), 0);
        Bounds.sentence(5, "or the FAULT less 10 (none is)");
        Lived.isFaulty(Kit::work, "night;seal 1;nigh;", 1, 13);
        Lived.isFaulty(Kit::work, "night;seal 1;seal 2;", 2, 18);
        Lived.isFaulty(Kit::work, "night;" + "again 1[".repeat(7), 3, 54);
        sixteenWorks();
    }

    private static CryptBank worked(int works) {
        CryptBank x = Kit.bank(TOWN);
        for (int i = 0; i < works; i++) {
            Kit.due("work " + i, Kit.work(x, "night;open 0;"), 1);
        }
        return x;
    }

    private static void sixteenWorks() {
        Bounds.sentence(5, "-20 ahead of that (nothing is read, there is no FAULT, the TAPE is empty then): 16 WORKS are"
                + " there that were not undone");
        CryptBank x = worked(15);
        Kit.due("the 16th", Kit.work(x, "night;"), 1);
        Kit.due("16 are there", x.count(2), 16);
        Kit.law(x, "(");
        Kit.due("a fault ahead", x.fault(), 1);
        String before = Look.at(x);
        Kit.due("a faulty 17th", Kit.work(x, "nigh;"), -20);
        Kit.due("no fault", x.fault(), -1);
        Kit.due("the tape", x.count(1), 0);
        Kit.same("all stays", Look.at(x), before);
        Kit.due("a fine 17th", Kit.work(x, "night;seal 1;pay 9;"), -20);
        Kit.same("all stays", Look.at(x), before);
        Kit.due("an empty 17th", x.work(0), -20);
        Kit.due("it is no refused call", x.status(0) + x.status(1), 0);
        Kit.feed(x, "night;");
        Kit.illegal("a wrong n", () -> x.work(21));
        Kit.due("the tape stays by that", x.count(1), 20);
        Kit.due("undone", x.undo(), 15);
        Kit.due("there is room again", x.work(6), 1);
        Kit.due("and no more", Kit.work(x, "night;"), -20);
        Kit.due("a county makes room", Kit.county(x, ""), 0);
        Kit.due("for works", Kit.work(x, "night;"), 1);
    }

    private static void bookText() {
        Bounds.sentence(6, "A BOOK is one of up to 60 bytes");
        Lived.isFine(Kit::book, "", 0);
        Lived.isFine(Kit::book, blanks(53) + "0 0 1;", 1);
        Lived.isFine(Kit::book, blanks(54) + "0 0 1;", 1);
        CryptBank x = Kit.bank(TOWN);
        Kit.feed(x, blanks(55) + "0 0 1;");
        Kit.illegal("61 bytes", () -> x.book(61));
        Bounds.sentence(6, "{ A K N \";\" }, 6 lines at most, those who wait");
        Lived.isFine(Kit::book, "0 0 1;".repeat(5), 5);
        Lived.isFine(Kit::book, "0 0 1;".repeat(6), 6);
        Lived.isFaulty(Kit::book, "0 0 1;".repeat(7), 3, 36);
        Lived.isFaulty(Kit::book, "0 0 1", 1, 5);
        Lived.isFaulty(Kit::book, "0 0;", 1, 3);
        Lived.isFaulty(Kit::book, ";", 1, 0);
        Lived.isFaulty(Kit::book, "0 0 1 1;", 1, 6);
        Bounds.sentence(6, "SOUL A for N (1 to 60) of KIND K (0 to 5)");
        CryptBank y = Kit.bank("slab 0 1;slab 5 60;soul 9 9;soul 9 9;");
        Kit.due("the least of all, the most of all", Kit.book(y, "0 0 1;1 5 60;"), 2);
        Kit.due("K 0, N 1", y.served(0), 0);
        Kit.due("K 5, N 60", y.served(1), 1);
        Kit.due("both together", y.serves(1), 61);
        Lived.isFine(Kit::book, "1 1 2;1 4 59;", 2);
        Lived.isFaulty(Kit::book, "2 0 1;", 2, 0);
        Lived.isFaulty(Kit::book, "0 6 1;", 2, 2);
        Lived.isFaulty(Kit::book, "0 0 0;", 2, 4);
        Lived.isFaulty(Kit::book, "0 0 61;", 2, 4);
        CryptBank none = new CryptBank();
        Kit.due("no soul at all", Kit.book(none, "0 0 1;"), -8);
    }

    private static void bookCall() {
        Bounds.sentence(6, "Likewise the BOOK (n to 60): how many lines");
        for (int n : new int[] {-1, Lived.BYTES + 1, Integer.MIN_VALUE, Integer.MAX_VALUE}) {
            Lived.isIllegal("book(" + n + ")", b -> b.book(n));
        }
        CryptBank x = Kit.bank(TOWN);
        Kit.feed(x, "0 0 1;" + blanks(74));
        Kit.illegal("61 of 80", () -> x.book(61));
        Kit.due("the tape stays", x.count(1), 80);
        Kit.due("60 of 80", x.book(60), 1);
        Kit.due("the tape is empty then", x.count(1), 0);
        Kit.feed(x, "0 0 1;1 1 1;" + blanks(28));
        Kit.illegal("41 of 40", () -> x.book(41));
        Kit.due("40 of 40", x.book(40), 2);
        Kit.illegal("1 of an empty tape", () -> x.book(1));
        Kit.due("lines stay", x.told(9), 2);
        Kit.due("0 of an empty tape", x.book(0), 0);
        Kit.due("lines are gone", x.told(9), 0);
        Kit.due("slabs stay", x.told(0), 2);
        Lived.isFaulty(Kit::book, "0 0 1;0 0", 1, 9);
        Lived.isFaulty(Kit::book, "0 0 1;0 9 1;", 2, 8);
        Lived.isFaulty(Kit::book, "0 0 1;".repeat(6) + "1", 3, 36);
    }

    private static void signs() {
        Bounds.sentence(3, "Numbers: digits, as many as stand there");
        CryptBank x = Kit.bank("slab 0000000000000000000000005 00000000060;");
        Kit.due("its kind", x.slab(0, 0), 5);
        Kit.due("under it", x.slab(0, 1), 60);
        // 2 to the 32nd and to the 64th would wrap to 0.
        Lived.isFaulty(Kit::county, "slab 4294967296 0;", 2, 5);
        Lived.isFaulty(Kit::county, "slab 18446744073709551616 0;", 2, 5);
        Lived.isFaulty(Kit::law, "4294967296", 2, 0);
        Lived.isFaulty(Kit::law, "9".repeat(150), 2, 0);
        Lived.isFine(Kit::law, "0".repeat(150), 1);
        Lived.isFaulty(Kit::county, "slab 0 0x;", 1, 8);
        Lived.isFaulty(Kit::county, "slab 0 -1;", 1, 7);
        Lived.isFaulty(Kit::county, "slab 0 /;", 1, 7);
        Lived.isFaulty(Kit::county, "slab 0 :;", 1, 7);
        Lived.isFaulty(Kit::county, "slab 00;", 1, 7);
        Bounds.sentence(3, "WORDS: small letters, as many as stand there");
        Lived.isFine(Kit::county, "slab0 0;soul0 0;kin0 0;", 1);
        Lived.isFaulty(Kit::county, "slabs 0 0;", 1, 0);
        Lived.isFaulty(Kit::county, "sla 0 0;", 1, 0);
        Lived.isFaulty(Kit::county, "sla b 0 0;", 1, 0);
        Lived.isFaulty(Kit::county, "Slab 0 0;", 1, 0);
        Lived.isFaulty(Kit::county, "slabA 0 0;", 1, 4);
        Lived.isFaulty(Kit::county, "slaba 0 0;", 1, 0);
        Lived.isFaulty(Kit::county, "slabz 0 0;", 1, 0);
        wordsAlmost(Kit::county, "slab", "soul", "kin");
        wordsAlmost(Kit::law, "amount", "nights", "kind", "kin", "standing", "left", "night", "soul", "least", "most");
        wordsAlmost(Kit::work, "lend", "pay", "earn", "seal", "open", "night", "again");
        Lived.isFaulty(Kit::county, "soulkin 0 0;", 1, 0);
        Lived.isFaulty(Kit::law, "kinkind", 1, 0);
        Lived.isFaulty(Kit::law, "nightss", 1, 0);
        Lived.isFaulty(Kit::law, "`", 1, 0);
        Lived.isFaulty(Kit::law, "{", 1, 0);
        Lived.isFaulty(Kit::work, "nights;", 1, 0);
        Bounds.sentence(3, "blanks (32) may stand ahead of all these, and at the end");
        Lived.isFine(Kit::county, "  slab  0  0  ;  soul  0  0  ;  kin  0  0  ;  ", 1);
        Lived.isFine(Kit::county, blanks(600), 0);
        Lived.isFine(Kit::law, "  least  [  1  ,  (  2  +  kind  )  ]  ", 1);
        Lived.isFine(Kit::work, "  again  2  [  earn  0  1  ;  ]  ;  ", 2);
        Lived.isFine(Kit::book, "  0  0  1  ;  ", 1);
        Lived.isFine(Kit::work, blanks(150), 0);
        Lived.isFine(Kit::book, blanks(60), 0);
        Lived.isFaulty(Kit::law, blanks(150), 1, 150);
        for (char sign : new char[] {0, 9, 10, 31, 33, 127, 128, 160, 255}) {
            Lived.isFaulty(Kit::county, sign + "slab 0 0;", 1, 0);
            Lived.isFaulty(Kit::county, "slab 0 0;" + sign, 1, 9);
            Lived.isFaulty(Kit::law, "1" + sign, 1, 1);
            Lived.isFaulty(Kit::work, "night" + sign + ";", 1, 5);
            Lived.isFaulty(Kit::book, "0" + sign + "0 1;", 1, 1);
        }
    }

    /** With one letter another, one too many, and one too few; some of these are words themselves. */
    private static void wordsAlmost(Kit.Taker taker, String... words) {
        for (String word : words) {
            for (int i = 0; i < word.length(); i++) {
                Lived.isFaulty(taker, word.substring(0, i) + "q" + word.substring(i + 1), 1, 0);
            }
            Lived.isFaulty(taker, word + "q", 1, 0);
            Lived.isFaulty(taker, "q" + word, 1, 0);
            String less = word.substring(0, word.length() - 1);
            if (!Arrays.asList(words).contains(less)) {
                Lived.isFaulty(taker, less, 1, 0);
            }
        }
    }

    private static void faultsOfOneKind() {
        Bounds.sentence(7, "FAULTS, the first from the left, at its first byte");
        Lived.isFaulty(Kit::county, "slab 6 61;soul;", 2, 5);
        Lived.isFaulty(Kit::county, "slab 0 61;slab 6 0;x", 2, 7);
        Lived.isFaulty(Kit::county, "slab 0 0 x;slab 6 0;", 1, 9);
        Lived.isFaulty(Kit::county, "slab   0061 0;", 2, 7);
        Lived.isFaulty(Kit::law, "1000+x", 2, 0);
        Lived.isFaulty(Kit::law, "x+1000", 1, 0);
        Lived.isFaulty(Kit::work, "   nigth;", 1, 3);
        Lived.isFaulty(Kit::work, "lend 9 9 99 99", 2, 5);
        Lived.isFaulty(Kit::book, "0 0 1;0   00099 0;", 2, 10);
        Bounds.sentence(7, "1 what can't stand there (at the length, if the text ends too early)");
        Lived.isFaulty(Kit::county, "slab", 1, 4);
        Lived.isFaulty(Kit::county, "slab   ", 1, 7);
        Lived.isFaulty(Kit::county, "slab 0", 1, 6);
        Lived.isFaulty(Kit::county, "slab 0 0", 1, 8);
        Lived.isFaulty(Kit::county, "sl", 1, 0);
        Lived.isFaulty(Kit::county, blanks(596) + "slab", 1, 600);
        Lived.isFaulty(Kit::county, blanks(599) + "x", 1, 599);
        Lived.isFaulty(Kit::law, "", 1, 0);
        Lived.isFaulty(Kit::law, "(", 1, 1);
        Lived.isFaulty(Kit::law, "least", 1, 5);
        Lived.isFaulty(Kit::law, "1" + "+1".repeat(74) + "+", 1, 150);
        Lived.isFaulty(Kit::work, "again 1[", 1, 8);
        Lived.isFaulty(Kit::work, blanks(145) + "night", 1, 150);
        Lived.isFaulty(Kit::book, "0", 1, 1);
        Lived.isFaulty(Kit::book, blanks(59) + "0", 1, 60);
        Lived.isFaulty(Kit::law, "x", 1, 0);
        Bounds.sentence(7, "2 a number that is none such");
        Lived.isFaulty(Kit::county, "slab 6", 2, 5);
        Lived.isFaulty(Kit::county, "slab 6x", 2, 5);
        Lived.isFaulty(Kit::work, "pay 10", 2, 4);
        Lived.isFaulty(Kit::work, "again 31", 2, 6);
        Lived.isFaulty(Kit::book, "2", 2, 0);
        Lived.isFaulty(Kit::law, "1000x", 2, 0);
        // A number where none can stand is no matter how great.
        Lived.isFaulty(Kit::law, "1 1000", 1, 2);
        Lived.isFaulty(Kit::county, "9999", 1, 0);
        Lived.isFaulty(Kit::work, "night 9999;", 1, 6);
    }

    private static void faultsTooMany() {
        Bounds.sentence(7, "3 a CLAUSE, SLAB or SOUL too many (at its word)");
        Lived.isFaulty(Kit::county, "slab 0 0;".repeat(8) + "   slab", 3, 75);
        Lived.isFaulty(Kit::county, "soul 0 0;".repeat(6) + "   soul 99", 3, 57);
        Lived.isFaulty(Kit::county, "soul 0 0;slab 0 0;" + "kin 0 0;".repeat(58) + "  kin", 3, 484);
        Lived.isFaulty(Kit::county, "soul 0 0;slab 0 0;" + "kin 0 0;".repeat(58) + "slab 6", 3, 482);
        Lived.isFaulty(Kit::county, "soul 0 0;slab 0 0;" + "kin 0 0;".repeat(58) + "soul", 3, 482);
        Lived.isFine(Kit::county, "soul 0 0;slab 0 0;" + "kin 0 0;".repeat(58) + blanks(118), 1);
        Bounds.sentence(7, "a line too many (at its A)");
        Lived.isFaulty(Kit::book, "0 0 1;".repeat(6) + "   1", 3, 39);
        Lived.isFaulty(Kit::book, "0 0 1;".repeat(6) + "0 9 99", 3, 36);
        Lived.isFine(Kit::book, "0 0 1;".repeat(6) + blanks(24), 6);
        Bounds.sentence(7, "or a 7th of ( least most again that is open at one time");
        Lived.isFine(Kit::law, "((((((1))))))", 1);
        Lived.isFaulty(Kit::law, "(((((((1)))))))", 3, 6);
        Lived.isFine(Kit::law, "least[".repeat(6) + "1" + ",1]".repeat(6), 1);
        Lived.isFaulty(Kit::law, "least[".repeat(7), 3, 36);
        Lived.isFine(Kit::law, "most[1,".repeat(6) + "1" + "]".repeat(6), 1);
        Lived.isFaulty(Kit::law, "most[1,".repeat(7), 3, 42);
        Lived.isFine(Kit::law, "(least[(most[1,(least[1,2])]),1])", 1);
        Lived.isFaulty(Kit::law, "(least[(most[1,(least[1, (2)])]),1])", 3, 25);
        Lived.isFaulty(Kit::law, "((((((  most", 3, 8);
        Lived.isFine(Kit::law, "((((((1))))))+((((((1))))))", 1);
        Lived.isFine(Kit::law, "(1)+(1)+(1)+(1)+(1)+(1)+(1)", 1);
        Lived.isFine(Kit::law, "least[(((((1))))),(((((1)))))]", 1);
        Lived.isFaulty(Kit::law, "least[(((((1))))),((((((1))))))]", 3, 23);
        Lived.isFine(Kit::work, "again 1[".repeat(6) + "night;" + "];".repeat(6), 1);
        Lived.isFaulty(Kit::work, "again 1[".repeat(6) + "night; again 31", 3, 55);
        Lived.isFine(Kit::work, "again 1[];".repeat(7), 0);
        Lived.isFine(Kit::work, "again 1[".repeat(5) + "again 1[];again 1[];" + "];".repeat(5), 0);
        Bounds.sentence(7, "of one the least");
        Lived.isFaulty(Kit::book, "0 0 1;".repeat(6) + "2 0 1;", 2, 36);
        Lived.isFaulty(Kit::book, "0 0 1;".repeat(6) + ";", 1, 36);
        Lived.isFaulty(Kit::county, "soul 0 0;slab 0 0;" + "kin 0 0;".repeat(58) + "kim 0 0;", 1, 482);
        Lived.isFaulty(Kit::county, "soul 0 0;slab 0 0;" + "kin 0 0;".repeat(58) + "9", 1, 482);
        Lived.isFaulty(Kit::county, "slab 0 0;".repeat(8) + "slabs 0 0;", 1, 72);
        Lived.isFaulty(Kit::law, "((((((mos", 1, 6);
        Lived.isFaulty(Kit::work, "again 1[".repeat(6) + "agains 1[", 1, 48);
    }

    private static void faultCall() {
        Bounds.sentence(7, "The place of the FAULT of the latest text; NONE without");
        CryptBank x = new CryptBank();
        Kit.due("ahead of any text", x.fault(), -1);
        Kit.due("a faulty county", Kit.county(x, " x"), -9);
        Kit.due("its place", x.fault(), 1);
        Kit.due("a faulty law", Kit.law(x, "  x"), -9);
        Kit.due("its place", x.fault(), 2);
        Kit.due("a faulty work", Kit.work(x, "   x"), -9);
        Kit.due("its place", x.fault(), 3);
        Kit.due("a faulty book", Kit.book(x, "x"), -9);
        Kit.due("its place is 0", x.fault(), 0);
        Kit.illegal("a text that is not taken", () -> x.law(1));
        Kit.noSuch("another call", () -> x.slab(0, 0));
        x.feed(0, 0, 0, 0, 0);
        x.image();
        x.restore();
        x.undo();
        Kit.due("of the latest text still", x.fault(), 0);
        Kit.due("a fine one", x.county(0), 0);
        Kit.due("none", x.fault(), -1);
        Kit.law(x, "x");
        Kit.law(x, "1");
        Kit.due("none by a fine law", x.fault(), -1);
        Kit.law(x, "x");
        Kit.work(x, "");
        Kit.due("none by fine work", x.fault(), -1);
        Kit.law(x, "x");
        Kit.book(x, "");
        Kit.due("none by a fine book", x.fault(), -1);
    }
}
