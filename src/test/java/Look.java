/** All that can be asked of a bank, as one text: two banks of one text answer alike. */
final class Look {
    private Look() {
    }

    private static void add(StringBuilder text, String name, int answer) {
        text.append(name).append(answer).append(' ');
    }

    /** What WORK changes; nothing is changed by looking. */
    static String state(CryptBank x) {
        StringBuilder text = new StringBuilder();
        for (int what = 2; what <= 8; what++) {
            add(text, "told" + what + "=", x.told(what));
        }
        add(text, "told11=", x.told(11));
        for (int slab = 0; slab < x.told(0); slab++) {
            add(text, "under=", x.slab(slab, 1));
            add(text, "loans=", x.slab(slab, 4));
        }
        for (int soul = 0; soul < x.told(1); soul++) {
            add(text, "standing=", x.soul(soul, 0));
            add(text, "purse=", x.soul(soul, 2));
        }
        for (int loan = 0; loan < x.told(2); loan++) {
            for (int what = 0; what <= 5; what++) {
                add(text, "loan" + what + "=", x.loan(loan, what));
            }
        }
        return text.toString();
    }

    /** All but the TAPE, the FAULT and the refusals, which tests ask by themselves. */
    static String at(CryptBank x) {
        StringBuilder text = new StringBuilder(state(x));
        for (int slab = 0; slab < x.told(0); slab++) {
            add(text, "kind=", x.slab(slab, 0));
            add(text, "was=", x.slab(slab, 2));
            add(text, "kin=", x.slab(slab, 5));
        }
        for (int soul = 0; soul < x.told(1); soul++) {
            add(text, "was=", x.soul(soul, 1));
        }
        for (int line = 0; line < x.told(9); line++) {
            add(text, "served=", x.served(line));
        }
        add(text, "serves=", x.serves(1));
        add(text, "call=", x.call(0));
        add(text, "would=", x.would(7, 5, 3, 1, 2, 40, 100, 4));
        add(text, "would=", x.would(60, 0, 0, 0, 0, 0, 0, 0));
        add(text, "refused=", x.told(10));
        add(text, "images=", x.count(0));
        add(text, "works=", x.count(2));
        return text.toString();
    }

    /** Goes back through all WORKS and all IMAGES, too: the bank is spent then. */
    static String through(CryptBank x) {
        StringBuilder text = new StringBuilder(at(x));
        addUndone(text, x);
        for (int left = x.restore(); left >= 0; left = x.restore()) {
            add(text, "restored: ", left);
            text.append(at(x));
            addUndone(text, x);
        }
        return text.toString();
    }

    private static void addUndone(StringBuilder text, CryptBank x) {
        for (int left = x.undo(); left >= 0; left = x.undo()) {
            add(text, "undone: ", left);
            text.append(state(x));
        }
    }
}
