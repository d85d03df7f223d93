/** A bank that has seen a little of everything, made alike each time: what changed it can be told. */
final class Lived {
    static final int SLABS = 2;
    static final int SOULS = 2;
    static final int LOANS = 2;
    static final int LINES = 2;
    static final int FAULT = 2;
    static final int BYTES = 20;

    private static String through;

    private Lived() {
    }

    /** The TAPE is empty. */
    static CryptBank untaped() {
        CryptBank x = Kit.bank("slab 0 20;slab 1 30;soul 2 40;soul 0 10;kin 1 1;");
        Kit.law(x, "amount+nights*2+kin");
        Kit.work(x, "lend 0 0 5 1;lend 1 1 3 9;night;");
        x.image();
        Kit.work(x, "night;earn 0 7;pay 9;");
        Kit.book(x, "0 0 5;1 1 2;");
        Kit.law(x, "1+x");
        return x;
    }

    static CryptBank bank() {
        CryptBank x = untaped();
        Kit.feed(x, "night;");
        return x;
    }

    /** How such a bank looks that nothing more was asked of. */
    static String through() {
        if (through == null) {
            through = Look.through(bank());
        }
        return through;
    }

    /** Nothing was changed; how many calls were refused is left to the caller. The bank is spent then. */
    static void isUnchanged(String what, CryptBank x) {
        Kit.due(what + ": the fault then", x.fault(), FAULT);
        Kit.due(what + ": bytes of the tape then", x.count(1), BYTES);
        Kit.same(what + ": all that can be asked", Look.through(x), through());
        Kit.due(what + ": what stands on the tape", x.work(6), 1);
    }

    static void isIllegal(String what, Kit.Call call) {
        CryptBank x = bank();
        Kit.illegal(what, () -> call.on(x));
        Kit.due(what + ": status(0)", x.status(0), 0);
        Kit.due(what + ": status(1)", x.status(1), 1);
        isUnchanged(what, x);
    }

    static void isNoSuch(String what, Kit.Call call) {
        CryptBank x = bank();
        Kit.noSuch(what, () -> call.on(x));
        Kit.due(what + ": status(0)", x.status(0), 1);
        Kit.due(what + ": status(1)", x.status(1), 0);
        isUnchanged(what, x);
    }

    static void isAnswered(String what, Kit.Call call) {
        CryptBank x = bank();
        call.on(x);
        Kit.due(what + ": refused", x.status(0) + x.status(1), 0);
        isUnchanged(what, x);
    }

    /** A text with a FAULT: all stays but the TAPE, which is empty, and the FAULT. */
    static void isFaulty(Kit.Taker taker, String text, int fault, int place) {
        CryptBank x = untaped();
        String what = "'" + Kit.shown(text) + "'";
        Kit.due(what, taker.take(x, text), fault - 10);
        Kit.due("the place in " + what, x.fault(), place);
        Kit.due("bytes of the tape behind " + what, x.count(1), 0);
        Kit.due("refused by " + what, x.status(0) + x.status(1), 0);
        Kit.same("all that can be asked behind " + what, Look.through(x), through());
    }

    static void isFine(Kit.Taker taker, String text, int answer) {
        CryptBank x = untaped();
        String what = "'" + Kit.shown(text) + "'";
        Kit.due(what, taker.take(x, text), answer);
        Kit.due("the fault of " + what, x.fault(), -1);
        Kit.due("bytes of the tape behind " + what, x.count(1), 0);
        Kit.due("refused by " + what, x.status(0) + x.status(1), 0);
    }
}
