/** What the tests share: texts put on the TAPE, answers held against those that are due. */
final class Kit {
    private static int wrong;
    private static int asked;
    private static String part = "";

    /** A call on a bank, whatever it answers. */
    interface Call {
        void on(CryptBank bank);
    }

    /** One of the four calls that take a text. */
    interface Taker {
        int take(CryptBank bank, String text);
    }

    private Kit() {
    }

    static void part(String name) {
        part = name;
    }

    static void due(String what, long got, long want) {
        asked++;
        if (got != want) {
            wrong++;
            System.out.println(part + ": " + what + " answered " + got + ", due is " + want);
        }
    }

    static void due(String what, boolean got, boolean want) {
        due(what, got ? 1 : 0, want ? 1 : 0);
    }

    static void same(String what, String got, String want) {
        asked++;
        if (!got.equals(want)) {
            wrong++;
            System.out.println(part + ": " + what + " answered\n  " + got + "\ndue is\n  " + want);
        }
    }

    /** Long rows of one sign are told by their length. */
    static String shown(String text) {
        return text.length() <= 80 ? text : text.substring(0, 76) + ".. (" + text.length() + " bytes)";
    }

    static void noSuch(String what, Runnable call) {
        thrown(what, call, "java.util.NoSuchElementException");
    }

    static void illegal(String what, Runnable call) {
        thrown(what, call, "java.lang.IllegalArgumentException");
    }

    private static void thrown(String what, Runnable call, String want) {
        asked++;
        String got = "nothing";
        try {
            call.run();
        } catch (RuntimeException e) {
            got = e.getClass().getName();
        }
        if (!got.equals(want)) {
            wrong++;
            System.out.println(part + ": " + what + " threw " + got + ", due is " + want);
        }
    }

    /** Puts a text on the TAPE, the last row of twenty bytes filled up with zeros. */
    static int feed(CryptBank bank, String text) {
        for (int i = 0; i < text.length(); i += 20) {
            int[] numbers = new int[5];
            for (int k = 0; k < 20; k++) {
                numbers[k / 4] = numbers[k / 4] << 8 | (i + k < text.length() ? text.charAt(i + k) : 0);
            }
            bank.feed(numbers[0], numbers[1], numbers[2], numbers[3], numbers[4]);
        }
        return text.length();
    }

    static int county(CryptBank bank, String text) {
        return bank.county(feed(bank, text));
    }

    static int law(CryptBank bank, String text) {
        return bank.law(feed(bank, text));
    }

    static int work(CryptBank bank, String text) {
        return bank.work(feed(bank, text));
    }

    static int book(CryptBank bank, String text) {
        return bank.book(feed(bank, text));
    }

    static CryptBank bank(String county) {
        CryptBank bank = new CryptBank();
        if (county(bank, county) < 0) {
            throw new IllegalStateException(county);
        }
        return bank;
    }

    static void end() {
        System.out.println(asked + " answers asked, " + wrong + " not as due");
        System.exit(wrong == 0 && asked > 0 ? 0 : 1);
    }
}
