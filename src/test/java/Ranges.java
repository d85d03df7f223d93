import java.lang.reflect.InvocationTargetException;
import java.lang.reflect.Method;
import java.util.Arrays;
import java.util.HashMap;
import java.util.Map;

/** What each call of the face takes: the least, the most, and what lies just outside of both. */
final class Ranges {
    /** Arguments that each call takes; the tests change them one by one. */
    private static final Map<String, int[]> FINE = new HashMap<>();

    private Ranges() {
    }

    static void all() {
        fillFine();
        told();
        slabSoulLoan();
        would();
        lendsAndTrust();
        aheadAndCheapest();
        clearsToRun();
        allAndSaint();
        candles();
        richestToPoorest();
        winterAndSpan();
    }

    private static void fillFine() {
        for (String name : new String[] {"told", "clears", "comes", "serves", "served", "call", "richest", "next",
            "worth", "broke", "deepest", "poorest"}) {
            FINE.put(name, new int[1]);
        }
        for (String name : new String[] {"slab", "soul", "loan", "ahead", "run", "kind", "late"}) {
            FINE.put(name, new int[2]);
        }
        FINE.put("would", new int[] {1, 0, 0, 0, 0, 0, 0, 0});
        FINE.put("lends", new int[] {0, 0, 1});
        FINE.put("cheapest", new int[] {0, 0, 1, 1});
        FINE.put("all", new int[4]);
        FINE.put("saint", new int[3]);
        FINE.put("candles", new int[3]);
        FINE.put("trust", new int[] {0, 1});
        FINE.put("winter", new int[] {0, 0, 1, 0});
        FINE.put("span", new int[] {0, 1, 0, 1, 0, 0});
    }

    private static void told() {
        range(9, "IllegalArgumentException: another what (so below)", "told", 0, 0, 11);
        range(9, "0 SLABS, 1 SOULS, 2 LOANS, 3 the NIGHT, 4 SLABS that are SEALED (bits), 5 what is under all SLABS"
                + " together, 6 what all LOANS OWE together now, 7 LOANS that are OVERDUE (bits), 8 in all PURSES"
                + " together, 9 lines of the BOOK, 10 STEPS REFUSED by the latest WORK", "told", 0, 0, 11);
    }

    private static void slabSoulLoan() {
        String none = "NoSuchElementException: no such SLAB, SOUL, LOAN (so below, ahead of others)";
        elements(10, none, "slab", 0, Lived.SLABS);
        range(10, "Of a SLAB: 0 K, 1 what is under it, 2 N as told, 3 1 SEALED, 0 not, 4 its LOANS (bits), 5 its kin"
                + " (bits of SOULS)", "slab", 1, 0, 5);
        elements(11, "Of a SOUL", "soul", 0, Lived.SOULS);
        range(11, "0 STANDING, 1 as told, 2 its PURSE, 3 its LOANS (bits), 4 what it OWES in all now, 5 how much it"
                + " has of LOANS (their N together)", "soul", 1, 0, 5);
        elements(12, "Of a LOAN", "loan", 0, Lived.LOANS);
        range(12, "0 its SOUL, 1 its SLAB, 2 N, 3 the NIGHT in which it was taken, 4 the NIGHT in which it is DUE, 5 1"
                + " OVERDUE, 0 not, 6 what it OWES now", "loan", 1, 0, 6);
    }

    private static void would() {
        range(13, "OWES by the LAW for such amount (1 to 60)", "would", 0, 1, 60);
        range(13, "nights (0 to 999)", "would", 1, 0, 999);
        range(13, "kind (0 to 5)", "would", 2, 0, 5);
        range(13, "kin (0, 1)", "would", 3, 0, 1);
        range(13, "standing (0 to 9)", "would", 4, 0, 9);
        range(13, "left (0 to 99)", "would", 5, 0, 99);
        range(13, "night (0 to 999)", "would", 6, 0, 999);
        range(13, "soul (0 to 5)", "would", 7, 0, 5);
    }

    private static void lendsAndTrust() {
        elements(14, "Whether a SLAB LENDS n (1 to 60) to a SOUL now", "lends", 0, Lived.SOULS);
        elements(14, "Whether a SLAB LENDS n (1 to 60) to a SOUL now", "lends", 1, Lived.SLABS);
        range(14, "Whether a SLAB LENDS n (1 to 60) to a SOUL now", "lends", 2, 1, 60);
        elements(33, "SOULS (bits) to whom a SLAB LENDS n (1 to 60) now", "trust", 0, Lived.SLABS);
        range(33, "SOULS (bits) to whom a SLAB LENDS n (1 to 60) now", "trust", 1, 1, 60);
    }

    private static void aheadAndCheapest() {
        range(15, "In n NIGHTS (0 to 99), nothing else being done", "ahead", 0, 0, 99);
        range(15, "0 what all LOANS OWE together, 1 SLABS that are SEALED (bits), 2 LOANS that are OVERDUE (bits)",
                "ahead", 1, 0, 2);
        elements(16, "CHEAPEST of a SOUL", "cheapest", 0, Lived.SOULS);
        range(16, "CHEAPEST for a KIND (0 to 5)", "cheapest", 1, 0, 5);
        range(16, "n (1 to 60)", "cheapest", 2, 1, 60);
        range(16, "t (1 to 40)", "cheapest", 3, 1, 40);
    }

    private static void clearsToRun() {
        elements(17, "CLEARS, as bits", "clears", 0, Lived.SOULS);
        range(18, "COMES to n (0 to 999)", "comes", 0, 0, 999);
        range(19, "SERVES: 0 how many lines, 1 N of these together", "serves", 0, 0, 1);
        elements(20, "NoSuchElementException: no such line", "served", 0, Lived.LINES);
        range(21, "CALL for a KIND (0 to 5)", "call", 0, 0, 5);
        elements(22, "RUN on a SLAB", "run", 0, Lived.SLABS);
        elements(22, "in how many orders a SOUL gets nothing", "run", 1, Lived.SOULS);
    }

    private static void allAndSaint() {
        range(23, "ALL of n (0 to 12)", "all", 0, 0, 12);
        range(23, "k (0 to 13)", "all", 1, 0, 13);
        range(23, "q (0 to 16)", "all", 2, 0, 16);
        range(23, "above (part 0), below (part 1)", "all", 3, 0, 1);
        range(24, "SAINT by v, w (0 to 99)", "saint", 0, 0, 99);
        range(24, "SAINT by v, w (0 to 99)", "saint", 1, 0, 99);
        range(24, "0 how many RESTS, 1 the first (10 times what the one does, 0 he gives, 1 he lends, and the other"
                + " one; NONE), 2 what both have by it together (0 without)", "saint", 2, 0, 2);
    }

    private static void candles() {
        elements(25, "What a SOUL gets of n (0 to 999) by CANDLES among told SOULS", "candles", 0, Lived.SOULS);
        range(25, "IllegalArgumentException: bits of no SOULS", "candles", 1, 0, (1 << Lived.SOULS) - 1);
        range(25, "What a SOUL gets of n (0 to 999) by CANDLES among told SOULS", "candles", 2, 0, 999);
    }

    private static void richestToPoorest() {
        range(26, "The SLAB with most under it (what 0), of alike ones the first, how much (1)", "richest", 0, 0, 1);
        range(27, "(what 0), of alike ones the first, in how many NIGHTS (1)", "next", 0, 0, 1);
        range(29, "What is under all SLABS of a KIND (0 to 5) together (what 0)", "kind", 0, 0, 5);
        range(29, "(N of its LOANS together; 1)", "kind", 1, 0, 1);
        elements(30, "What is in the PURSE of a SOUL", "worth", 0, Lived.SOULS);
        elements(31, "a SOUL OWES more in all than is in its PURSE", "broke", 0, Lived.SOULS);
        elements(32, "LOANS (bits) of a SOUL", "late", 0, Lived.SOULS);
        range(32, "that are OVERDUE (what 0), that are not (1)", "late", 1, 0, 1);
        range(34, "The LOAN that OWES most now (what 0), of alike ones the first, how much (1)", "deepest", 0, 0, 1);
        range(35, "The SOUL of least PURSE (what 0), of alike ones the first, how much (1)", "poorest", 0, 0, 1);
    }

    private static void winterAndSpan() {
        answered(36, "A WINTER by a SEED", "winter", 0);
        range(36, "A WINTER of so many NIGHTS (1 to 96)", "winter", 2, 1, 96);
        range(36, "Q (0 to 16)", "winter", 1, 0, 16);
        range(36, "0 LOANS then, 1 what is under all SLABS then, 2 SLABS that are SEALED then (bits), 3 LOANS that"
                + " were paid in it", "winter", 3, 0, 3);
        answered(37, "seed, seed and 1, ..", "span", 0);
        range(37, "Of so many SEEDS (1 to 20;", "span", 1, 1, 20);
        range(37, "A WINTER by a SEED", "span", 2, 0, 16);
        range(37, "for so many NIGHTS", "span", 3, 1, 96);
        range(37, "0 the least under all SLABS then, 1 the most, 2 by how many STANDING of a SOUL is 0 then", "span", 4,
                0, 2);
        for (int what = 0; what <= 2; what++) {
            FINE.put("span", new int[] {0, 1, 0, 1, what, 0});
            range(37, "(IllegalArgumentException: no such SOUL, also for 0, 1.)", "span", 5, 0, Lived.SOULS - 1);
        }
    }

    /** Inside and at both ends the call answers; just outside and far outside it is refused, and all stays. */
    private static void range(int promise, String words, String call, int place, int least, int most) {
        Bounds.sentence(promise, words);
        for (int value : new int[] {least, least + 1, most - 1, most}) {
            if (value >= least && value <= most) {
                int[] with = with(call, place, value);
                Lived.isAnswered(asText(call, with), x -> invoke(x, call, with));
            }
        }
        for (int value : new int[] {least - 1, most + 1, Integer.MIN_VALUE, Integer.MAX_VALUE}) {
            int[] with = with(call, place, value);
            Lived.isIllegal(asText(call, with), x -> invoke(x, call, with));
        }
    }

    /** So many are there, from 0 on; what is not there goes ahead of any other wrong argument. */
    private static void elements(int promise, String words, String call, int place, int count) {
        Bounds.sentence(promise, words);
        for (int value = 0; value < count; value++) {
            int[] with = with(call, place, value);
            Lived.isAnswered(asText(call, with), x -> invoke(x, call, with));
        }
        for (int value : new int[] {-1, count, Integer.MIN_VALUE, Integer.MAX_VALUE}) {
            int[] with = with(call, place, value);
            Lived.isNoSuch(asText(call, with), x -> invoke(x, call, with));
            int[] others = new int[with.length];
            Arrays.fill(others, -1);
            others[place] = value;
            Lived.isNoSuch(asText(call, others), x -> invoke(x, call, others));
        }
    }

    /** Every number is fine. */
    private static void answered(int promise, String words, String call, int place) {
        Bounds.sentence(promise, words);
        for (int value : new int[] {0, 1, -1, Integer.MIN_VALUE, Integer.MAX_VALUE}) {
            int[] with = with(call, place, value);
            Lived.isAnswered(asText(call, with), x -> invoke(x, call, with));
        }
    }

    private static int[] with(String call, int place, int value) {
        int[] arguments = FINE.get(call).clone();
        arguments[place] = value;
        return arguments;
    }

    private static String asText(String call, int[] arguments) {
        return call + Arrays.toString(arguments);
    }

    private static void invoke(CryptBank x, String call, int[] arguments) {
        Class<?>[] types = new Class<?>[arguments.length];
        Arrays.fill(types, int.class);
        try {
            Method method = CryptBank.class.getMethod(call, types);
            method.invoke(x, Arrays.stream(arguments).boxed().toArray());
        } catch (InvocationTargetException e) {
            throw (RuntimeException) e.getCause();
        } catch (ReflectiveOperationException e) {
            throw new IllegalStateException(e);
        }
    }
}
