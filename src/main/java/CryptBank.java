import java.util.NoSuchElementException;

/** The lenders of last resort: a county of slabs and souls, and the loans between them. */
public final class CryptBank {
    public static final int NONE = -1;

    private static final int MOST_TAPE = 600;
    private static final int MOST_LAW = 150;
    private static final int MOST_WORK = 150;
    private static final int MOST_BOOK = 60;
    private static final int MOST_CLAUSES = 60;
    private static final int MOST_SLABS = 8;
    private static final int MOST_SOULS = 6;
    private static final int MOST_LOANS = 10;
    private static final int MOST_LINES = 6;
    private static final int MOST_OPEN = 6;
    private static final int MOST_WORKS = 16;
    private static final int MOST_IMAGES = 3;
    private static final int MOST_BEGUN = 200;
    private static final int MOST_OWED = 200;
    private static final int MOST_UNDER = 99;
    private static final int MOST_IN_PURSE = 300;
    private static final int MOST_STANDING = 9;
    private static final int MOST_KIND = 5;
    private static final int MOST_AMOUNT = 60;
    private static final int MOST_NIGHTS_LENT = 40;
    private static final int MOST_AHEAD = 99;
    private static final int LAST_NIGHT = 400;
    private static final int TOO_MANY_WORKS = -20;

    private static final int CANNOT_STAND = 1;
    private static final int NO_SUCH_NUMBER = 2;
    private static final int TOO_MANY = 3;

    private final Tape tape;
    private final County county;
    private final County countyRead;
    private final Law law;
    private final Law lawRead;
    private final Book book;
    private final Book bookRead;
    private final Work work;
    private final Rules rules;
    private final Page page;
    private final Page[] images;
    private final State dream;
    private final Serving serving;
    private final Winter winter;
    private final int[] owed;
    private int imageCount;
    private int refusedSteps;
    private int noSuchElements;
    private int illegalArguments;

    public CryptBank() {
        tape = new Tape();
        county = new County();
        countyRead = new County();
        law = new Law();
        lawRead = new Law();
        book = new Book();
        bookRead = new Book();
        work = new Work();
        rules = new Rules(county, law);
        page = new Page();
        images = new Page[MOST_IMAGES];
        for (int i = 0; i < images.length; i++) {
            images[i] = new Page();
        }
        dream = new State();
        serving = new Serving();
        winter = new Winter();
        owed = new int[MOST_LOANS];
    }

    public int feed(int a, int b, int c, int d, int e) {
        if (!tape.hasRoomFor(20)) {
            return NONE;
        }
        tape.add(a);
        tape.add(b);
        tape.add(c);
        tape.add(d);
        tape.add(e);
        return tape.size;
    }

    public int county(int n) throws IllegalArgumentException {
        beginText(n, MOST_TAPE);
        if (!countyRead.read(tape)) {
            return tape.faultAnswer();
        }
        county.copyFrom(countyRead);
        law.becomeUntold();
        book.clear();
        page.begin(county);
        imageCount = 0;
        refusedSteps = 0;
        return county.slabs;
    }

    public int law(int n) throws IllegalArgumentException {
        beginText(n, MOST_LAW);
        if (!lawRead.read(tape)) {
            return tape.faultAnswer();
        }
        law.copyFrom(lawRead);
        return 1;
    }

    public int work(int n) throws IllegalArgumentException {
        beginText(n, MOST_WORK);
        if (page.works >= MOST_WORKS) {
            return TOO_MANY_WORKS;
        }
        if (!work.read(tape, county)) {
            return tape.faultAnswer();
        }
        page.keep();
        work.carryOut(rules, page.now, 0, work.steps, 0);
        refusedSteps = work.refused;
        return work.done;
    }

    public int book(int n) throws IllegalArgumentException {
        beginText(n, MOST_BOOK);
        if (!bookRead.read(tape, county.souls)) {
            return tape.faultAnswer();
        }
        book.copyFrom(bookRead);
        return book.lines;
    }

    public int fault() {
        return tape.faultPlace;
    }

    public int undo() {
        if (!page.goBack()) {
            return NONE;
        }
        refusedSteps = 0;
        return page.works;
    }

    public int told(int what) throws IllegalArgumentException {
        State now = page.now;
        switch (what) {
            case 0: return county.slabs;
            case 1: return county.souls;
            case 2: return now.loans();
            case 3: return now.night();
            case 4: return now.sealedSlabs();
            case 5: return underAll(now);
            case 6: return rules.owesInAll(now, NONE);
            case 7: return now.overdue();
            case 8: return inAllPurses(now);
            case 9: return book.lines;
            case 10: return refusedSteps;
            case 11: return now.paid();
            default: needArgument(false);
        }
        return NONE;
    }

    public int slab(int slab, int what) throws NoSuchElementException, IllegalArgumentException {
        needSlab(slab);
        State now = page.now;
        switch (what) {
            case 0: return county.kindOf(slab);
            case 1: return now.under(slab);
            case 2: return county.toldUnder(slab);
            case 3: return now.isSealed(slab) ? 1 : 0;
            case 4: return now.loansWhere(State.OF_SLAB, slab);
            case 5: return county.kinOf(slab);
            default: needArgument(false);
        }
        return NONE;
    }

    public int soul(int soul, int what) throws NoSuchElementException, IllegalArgumentException {
        needSoul(soul);
        State now = page.now;
        switch (what) {
            case 0: return now.standing(soul);
            case 1: return county.toldStanding(soul);
            case 2: return now.purse(soul);
            case 3: return now.loansWhere(State.OF_SOUL, soul);
            case 4: return rules.owesInAll(now, soul);
            case 5: return now.lentWhere(State.OF_SOUL, soul);
            default: needArgument(false);
        }
        return NONE;
    }

    public int loan(int loan, int what) throws NoSuchElementException, IllegalArgumentException {
        needElement(page.now.hasLoan(loan));
        needRange(what, 0, 6);
        return what == 6 ? rules.owes(page.now, loan) : page.now.ofLoan(loan, what);
    }

    public int would(int amount, int nights, int kind, int kin, int standing, int left, int night, int soul)
            throws IllegalArgumentException {
        needRange(amount, 1, MOST_AMOUNT);
        needRange(nights, 0, 999);
        needRange(kind, 0, MOST_KIND);
        needRange(kin, 0, 1);
        needRange(standing, 0, MOST_STANDING);
        needRange(left, 0, MOST_UNDER);
        needRange(night, 0, 999);
        needRange(soul, 0, MOST_SOULS - 1);
        law.tellLoan(amount, nights, kind, kin);
        law.tellRest(standing, left, night, soul);
        return law.owes();
    }

    public boolean lends(int soul, int slab, int n) throws NoSuchElementException, IllegalArgumentException {
        needSoul(soul);
        needSlab(slab);
        needRange(n, 1, MOST_AMOUNT);
        return rules.wouldLend(page.now, soul, slab, n);
    }

    public int ahead(int n, int what) throws IllegalArgumentException {
        needRange(n, 0, MOST_AHEAD);
        needRange(what, 0, 2);
        dream.copyFrom(page.now);
        for (int i = 0; i < n; i++) {
            rules.passNight(dream);
        }
        if (what == 0) {
            return rules.owesInAll(dream, NONE);
        }
        return what == 1 ? dream.sealedSlabs() : dream.overdue();
    }

    public int cheapest(int soul, int kind, int n, int t) throws NoSuchElementException, IllegalArgumentException {
        needSoul(soul);
        needRange(kind, 0, MOST_KIND);
        needRange(n, 1, MOST_AMOUNT);
        needRange(t, 1, MOST_NIGHTS_LENT);
        int best = NONE;
        int least = 0;
        for (int slab = 0; slab < county.slabs; slab++) {
            if (county.kindOf(slab) == kind && rules.wouldLend(page.now, soul, slab, n)) {
                int price = rules.wouldOwe(page.now, soul, slab, n, t);
                if (best == NONE || price < least) {
                    best = slab;
                    least = price;
                }
            }
        }
        return best;
    }

    public int clears(int soul) throws NoSuchElementException {
        needSoul(soul);
        fillOwed();
        int own = page.now.loansWhere(State.OF_SOUL, soul);
        int purse = page.now.purse(soul);
        int best = 0;
        for (int set = 1; set < 1 << page.now.loans(); set++) {
            if ((set & ~own) == 0 && owedBy(set) <= purse && clearsMore(set, best)) {
                best = set;
            }
        }
        return best;
    }

    public int comes(int n) throws IllegalArgumentException {
        needRange(n, 0, 999);
        fillOwed();
        int sets = 0;
        for (int set = 0; set < 1 << page.now.loans(); set++) {
            if (owedBy(set) == n) {
                sets++;
            }
        }
        return sets;
    }

    public int serves(int what) throws IllegalArgumentException {
        needRange(what, 0, 1);
        serving.begin(book, rules, page.now);
        return what == 0 ? serving.mostLines() : serving.mostAmount();
    }

    public int served(int line) throws NoSuchElementException {
        needElement(line >= 0 && line < book.lines);
        serving.begin(book, rules, page.now);
        return serving.slabOf(line);
    }

    public int call(int kind) throws IllegalArgumentException {
        needRange(kind, 0, MOST_KIND);
        serving.begin(book, rules, page.now);
        return serving.leastMore(book, kind);
    }

    public int run(int slab, int soul) throws NoSuchElementException {
        needSlab(slab);
        needSoul(soul);
        return ordersWithNothing(soul, page.now.under(slab), 0, county.souls);
    }

    public long all(int n, int k, int q, int part) throws IllegalArgumentException {
        needRange(n, 0, 12);
        needRange(k, 0, 13);
        needRange(q, 0, 16);
        needRange(part, 0, 1);
        long above = 0;
        for (int i = k; i <= n; i++) {
            above += choices(n, i) * power(q, i) * power(16 - q, n - i);
        }
        long below = power(16, n);
        // Below is a power of 2, so halving alone reaches the least terms.
        for (int i = 0; i < 48 && ((above | below) & 1) == 0; i++) {
            above >>= 1;
            below >>= 1;
        }
        return part == 0 ? above : below;
    }

    public int saint(int v, int w, int what) throws IllegalArgumentException {
        needRange(v, 0, 99);
        needRange(w, 0, 99);
        needRange(what, 0, 2);
        int rests = 0;
        int first = NONE;
        int together = 0;
        for (int one = 0; one <= 1; one++) {
            for (int other = 0; other <= 1; other++) {
                if (has(v, w, one, other) >= has(v, w, 1 - one, other)
                        && has(v, w, other, one) >= has(v, w, 1 - other, one)) {
                    rests++;
                    if (first == NONE) {
                        first = 10 * one + other;
                        together = has(v, w, one, other) + has(v, w, other, one);
                    }
                }
            }
        }
        if (what == 0) {
            return rests;
        }
        return what == 1 ? first : together;
    }

    public int candles(int soul, int souls, int n) throws NoSuchElementException, IllegalArgumentException {
        needSoul(soul);
        needArgument((souls & -(1 << county.souls)) == 0);
        needRange(n, 0, 999);
        if ((souls >> soul & 1) == 0) {
            return 0;
        }
        int bound = 0;
        while (bound < MOST_IN_PURSE && givenUpTo(bound + 1, souls) <= n) {
            bound++;
        }
        return Math.min(page.now.purse(soul), bound);
    }

    public int richest(int what) throws IllegalArgumentException {
        needRange(what, 0, 1);
        int best = NONE;
        int most = NONE;
        for (int slab = 0; slab < county.slabs; slab++) {
            if (page.now.under(slab) > most) {
                best = slab;
                most = page.now.under(slab);
            }
        }
        return what == 0 ? best : most;
    }

    public int next(int what) throws IllegalArgumentException {
        needRange(what, 0, 1);
        State now = page.now;
        int best = NONE;
        int least = NONE;
        for (int loan = 0; loan < now.loans(); loan++) {
            int nights = now.ofLoan(loan, State.DUE) - now.night();
            if (!now.isOverdue(loan) && (best == NONE || nights < least)) {
                best = loan;
                least = nights;
            }
        }
        return what == 0 ? best : least;
    }

    public int shut() {
        int bits = 0;
        for (int soul = 0; soul < county.souls; soul++) {
            if (!isLentByAny(soul)) {
                bits |= 1 << soul;
            }
        }
        return bits;
    }

    public int kind(int kind, int what) throws IllegalArgumentException {
        needRange(kind, 0, MOST_KIND);
        needRange(what, 0, 1);
        int sum = 0;
        for (int slab = 0; slab < county.slabs; slab++) {
            if (county.kindOf(slab) == kind) {
                sum += what == 0 ? page.now.under(slab) : page.now.lentWhere(State.OF_SLAB, slab);
            }
        }
        return sum;
    }

    public int worth(int soul) throws NoSuchElementException {
        needSoul(soul);
        return page.now.purse(soul) - rules.owesInAll(page.now, soul);
    }

    public int broke(int soul) throws NoSuchElementException {
        needSoul(soul);
        dream.copyFrom(page.now);
        for (int nights = 0; nights <= MOST_AHEAD; nights++) {
            if (rules.owesInAll(dream, soul) > dream.purse(soul)) {
                return nights;
            }
            rules.passNight(dream);
        }
        return NONE;
    }

    public int late(int soul, int what) throws NoSuchElementException, IllegalArgumentException {
        needSoul(soul);
        needRange(what, 0, 1);
        int own = page.now.loansWhere(State.OF_SOUL, soul);
        int overdue = page.now.overdue();
        return what == 0 ? own & overdue : own & ~overdue;
    }

    public int trust(int slab, int n) throws NoSuchElementException, IllegalArgumentException {
        needSlab(slab);
        needRange(n, 1, MOST_AMOUNT);
        int bits = 0;
        for (int soul = 0; soul < county.souls; soul++) {
            if (rules.wouldLend(page.now, soul, slab, n)) {
                bits |= 1 << soul;
            }
        }
        return bits;
    }

    public int deepest(int what) throws IllegalArgumentException {
        needRange(what, 0, 1);
        int best = NONE;
        int most = NONE;
        for (int loan = 0; loan < page.now.loans(); loan++) {
            int owes = rules.owes(page.now, loan);
            if (owes > most) {
                best = loan;
                most = owes;
            }
        }
        return what == 0 ? best : most;
    }

    public int poorest(int what) throws IllegalArgumentException {
        needRange(what, 0, 1);
        int best = NONE;
        int least = NONE;
        for (int soul = 0; soul < county.souls; soul++) {
            int purse = page.now.purse(soul);
            if (best == NONE || purse < least) {
                best = soul;
                least = purse;
            }
        }
        return what == 0 ? best : least;
    }

    public int winter(int seed, int q, int nights, int what) throws IllegalArgumentException {
        needRange(q, 0, 16);
        needRange(nights, 1, 96);
        needRange(what, 0, 3);
        dreamWinter(seed, q, nights);
        switch (what) {
            case 0: return dream.loans();
            case 1: return underAll(dream);
            case 2: return dream.sealedSlabs();
            default: return dream.paid() - page.now.paid();
        }
    }

    public int span(int seed, int many, int q, int nights, int what, int soul) throws IllegalArgumentException {
        needRange(many, 1, 20);
        needRange(q, 0, 16);
        needRange(nights, 1, 96);
        needRange(what, 0, 2);
        needArgument(soul >= 0 && soul < county.souls);
        int least = NONE;
        int most = NONE;
        int fallen = 0;
        for (int i = 0; i < many; i++) {
            dreamWinter(seed + i, q, nights);
            int under = underAll(dream);
            least = least == NONE ? under : Math.min(least, under);
            most = Math.max(most, under);
            fallen += dream.standing(soul) == 0 ? 1 : 0;
        }
        if (what == 0) {
            return least;
        }
        return what == 1 ? most : fallen;
    }

    public int image() {
        if (imageCount < 0 || imageCount >= images.length) {
            return NONE;
        }
        images[imageCount].copyFrom(page);
        imageCount++;
        return imageCount;
    }

    public int restore() {
        if (imageCount <= 0 || imageCount > images.length) {
            return NONE;
        }
        imageCount--;
        page.copyFrom(images[imageCount]);
        refusedSteps = 0;
        return imageCount;
    }

    public int status(int what) {
        if (what == 0) {
            return noSuchElements;
        }
        return what == 1 ? illegalArguments : NONE;
    }

    public int count(int what) {
        switch (what) {
            case 0: return imageCount;
            case 1: return tape.size;
            case 2: return page.works;
            default: return NONE;
        }
    }

    private void needElement(boolean there) {
        if (!there) {
            noSuchElements++;
            throw new NoSuchElementException("there is none such");
        }
    }

    private void needSlab(int slab) {
        needElement(slab >= 0 && slab < county.slabs);
    }

    private void needSoul(int soul) {
        needElement(soul >= 0 && soul < county.souls);
    }

    private void needArgument(boolean fine) {
        if (!fine) {
            illegalArguments++;
            throw new IllegalArgumentException("an argument is none such");
        }
    }

    private void needRange(int value, int least, int most) {
        needArgument(value >= least && value <= most);
    }

    private void beginText(int n, int most) {
        needRange(n, 0, Math.min(most, tape.size));
        tape.begin(n);
    }

    private int underAll(State state) {
        int sum = 0;
        for (int slab = 0; slab < county.slabs; slab++) {
            sum += state.under(slab);
        }
        return sum;
    }

    private int inAllPurses(State state) {
        int sum = 0;
        for (int soul = 0; soul < county.souls; soul++) {
            sum += state.purse(soul);
        }
        return sum;
    }

    private boolean isLentByAny(int soul) {
        for (int slab = 0; slab < county.slabs; slab++) {
            if (rules.wouldLend(page.now, soul, slab, 1)) {
                return true;
            }
        }
        return false;
    }

    private void fillOwed() {
        for (int loan = 0; loan < owed.length; loan++) {
            owed[loan] = page.now.hasLoan(loan) ? rules.owes(page.now, loan) : 0;
        }
    }

    private int owedBy(int set) {
        int sum = 0;
        for (int loan = 0; loan < owed.length; loan++) {
            if ((set >> loan & 1) == 1) {
                sum += owed[loan];
            }
        }
        return sum;
    }

    private boolean clearsMore(int set, int best) {
        int more = Integer.bitCount(set) - Integer.bitCount(best);
        return more > 0 || more == 0 && owedBy(set) < owedBy(best);
    }

    /** Walks orders only up to the told SOUL: behind it each order of the rest counts alike. */
    private int ordersWithNothing(int told, int under, int come, int waiting) {
        int orders = 0;
        if (waiting <= 0) {
            return orders;
        }
        for (int soul = 0; soul < county.souls; soul++) {
            if ((come >> soul & 1) == 0) {
                int wants = Math.max(1, page.now.purse(soul) / 2);
                int left = wants <= under ? under - wants : under;
                if (soul != told) {
                    orders += ordersWithNothing(told, left, come | 1 << soul, waiting - 1);
                } else if (wants > under) {
                    orders += factorial(waiting - 1);
                }
            }
        }
        return orders;
    }

    private int givenUpTo(int bound, int souls) {
        int sum = 0;
        for (int soul = 0; soul < county.souls; soul++) {
            if ((souls >> soul & 1) == 1) {
                sum += Math.min(page.now.purse(soul), bound);
            }
        }
        return sum;
    }

    private void dreamWinter(int seed, int q, int nights) {
        dream.copyFrom(page.now);
        winter.pass(rules, dream, seed, q, nights);
    }

    private static int factorial(int n) {
        int product = 1;
        for (int i = 2; i <= n; i++) {
            product *= i;
        }
        return product;
    }

    private static long choices(int n, int i) {
        long ways = 1;
        for (int k = 1; k <= i; k++) {
            ways = ways * (n - k + 1) / k;
        }
        return ways;
    }

    private static long power(int base, int times) {
        long product = 1;
        for (int i = 0; i < times; i++) {
            product *= base;
        }
        return product;
    }

    /** What one has who does this (0 gives, 1 lends) while the other does that. */
    private static int has(int v, int w, int does, int other) {
        if (does == 0) {
            return other == 0 ? v : 0;
        }
        return other == 0 ? v + w : w;
    }

    private static boolean isLetter(int sign) {
        return sign >= 'a' && sign <= 'z';
    }

    private static boolean isDigit(int sign) {
        return sign >= '0' && sign <= '9';
    }

    private static int entry(int[] row, int index) {
        return index >= 0 && index < row.length ? row[index] : 0;
    }

    private static void setEntry(int[] row, int index, int value) {
        if (index >= 0 && index < row.length) {
            row[index] = value;
        }
    }

    private static void copyRow(int[] from, int[] to) {
        System.arraycopy(from, 0, to, 0, Math.min(from.length, to.length));
    }

    /** The TAPE, and the text read from its first bytes, of which it keeps the first FAULT. */
    private static final class Tape {
        private final byte[] bytes = new byte[MOST_TAPE];
        private int size;
        private int end;
        private int place;
        private int start;
        private int faultKind;
        private int faultPlace = NONE;

        boolean hasRoomFor(int more) {
            return size + more <= bytes.length;
        }

        void add(int number) {
            for (int shift = 24; shift >= 0; shift -= 8) {
                if (size >= 0 && size < bytes.length) {
                    bytes[size] = (byte) (number >> shift);
                    size++;
                }
            }
        }

        /** The TAPE is empty from here on; its bytes stand until the next are fed. */
        void begin(int n) {
            size = 0;
            end = Math.min(n, bytes.length);
            place = 0;
            start = 0;
            faultKind = 0;
            faultPlace = NONE;
        }

        int faultAnswer() {
            return faultKind - 10;
        }

        boolean failHere(int kind) {
            faultKind = kind;
            faultPlace = place;
            return false;
        }

        /** At the first byte of the word or number that was taken last. */
        boolean failAtStart(int kind) {
            faultKind = kind;
            faultPlace = start;
            return false;
        }

        /** The sign behind all blanks; NONE at the end. */
        int peek() {
            while (place < end && bytes[place] == ' ') {
                place++;
            }
            return place < end ? bytes[place] & 255 : NONE;
        }

        boolean takeEnd() {
            return peek() == NONE || failHere(CANNOT_STAND);
        }

        boolean takeSign(int sign) {
            if (peek() != sign) {
                return failHere(CANNOT_STAND);
            }
            place++;
            return true;
        }

        boolean takeWord() {
            if (!isLetter(peek())) {
                return failHere(CANNOT_STAND);
            }
            start = place;
            while (place < end && isLetter(bytes[place])) {
                place++;
            }
            return true;
        }

        boolean wordIs(String word) {
            if (place - start != word.length() || start < 0 || place > bytes.length) {
                return false;
            }
            for (int i = 0; i < word.length(); i++) {
                if (bytes[start + i] != word.charAt(i)) {
                    return false;
                }
            }
            return true;
        }

        /** The number that stands next; NONE behind a FAULT. */
        int takeNumber(int least, int most) {
            if (!isDigit(peek())) {
                failHere(CANNOT_STAND);
                return NONE;
            }
            start = place;
            int number = 0;
            while (place < end && isDigit(bytes[place])) {
                // Held small, so that no row of digits wraps back into what is allowed.
                number = Math.min(100000, number * 10 + bytes[place] - '0');
                place++;
            }
            if (number < least || number > most) {
                failAtStart(NO_SUCH_NUMBER);
                return NONE;
            }
            return number;
        }
    }

    /** What is told of SLABS and SOULS, and never changes by WORK. */
    private static final class County {
        private int slabs;
        private int souls;
        private final int[] kinds = new int[MOST_SLABS];
        private final int[] unders = new int[MOST_SLABS];
        private final int[] kin = new int[MOST_SLABS];
        private final int[] standings = new int[MOST_SOULS];
        private final int[] purses = new int[MOST_SOULS];

        void copyFrom(County other) {
            slabs = other.slabs;
            souls = other.souls;
            copyRow(other.kinds, kinds);
            copyRow(other.unders, unders);
            copyRow(other.kin, kin);
            copyRow(other.standings, standings);
            copyRow(other.purses, purses);
        }

        int kindOf(int slab) {
            return entry(kinds, slab);
        }

        int toldUnder(int slab) {
            return entry(unders, slab);
        }

        int kinOf(int slab) {
            return entry(kin, slab);
        }

        boolean isKin(int soul, int slab) {
            return (entry(kin, slab) >> soul & 1) == 1;
        }

        int toldStanding(int soul) {
            return entry(standings, soul);
        }

        int toldPurse(int soul) {
            return entry(purses, soul);
        }

        boolean read(Tape tape) {
            slabs = 0;
            souls = 0;
            // One turn more than there may be CLAUSES: the one too many is itself the FAULT.
            for (int clause = 0; clause <= MOST_CLAUSES && tape.peek() != NONE; clause++) {
                if (!readClause(tape, clause >= MOST_CLAUSES) || !tape.takeSign(';')) {
                    return false;
                }
            }
            return true;
        }

        private boolean readClause(Tape tape, boolean tooMany) {
            if (!tape.takeWord()) {
                return false;
            }
            if (tape.wordIs("slab")) {
                return tooMany || slabs >= MOST_SLABS ? tape.failAtStart(TOO_MANY) : readSlab(tape);
            }
            if (tape.wordIs("soul")) {
                return tooMany || souls >= MOST_SOULS ? tape.failAtStart(TOO_MANY) : readSoul(tape);
            }
            if (tape.wordIs("kin")) {
                return tooMany ? tape.failAtStart(TOO_MANY) : readKin(tape);
            }
            return tape.failAtStart(CANNOT_STAND);
        }

        private boolean readSlab(Tape tape) {
            int kind = tape.takeNumber(0, MOST_KIND);
            if (kind == NONE) {
                return false;
            }
            int under = tape.takeNumber(0, MOST_AMOUNT);
            if (under == NONE) {
                return false;
            }
            setEntry(kinds, slabs, kind);
            setEntry(unders, slabs, under);
            setEntry(kin, slabs, 0);
            slabs++;
            return true;
        }

        private boolean readSoul(Tape tape) {
            int standing = tape.takeNumber(0, MOST_STANDING);
            if (standing == NONE) {
                return false;
            }
            int purse = tape.takeNumber(0, 99);
            if (purse == NONE) {
                return false;
            }
            setEntry(standings, souls, standing);
            setEntry(purses, souls, purse);
            souls++;
            return true;
        }

        private boolean readKin(Tape tape) {
            int soul = tape.takeNumber(0, souls - 1);
            if (soul == NONE) {
                return false;
            }
            int slab = tape.takeNumber(0, slabs - 1);
            if (slab == NONE) {
                return false;
            }
            setEntry(kin, slab, kinOf(slab) | 1 << soul);
            return true;
        }
    }

    /** The LAW as a row in which each deed stands behind the two that it is done to. */
    private static final class Law {
        // Numbers stand for themselves, so what is none begins behind the greatest number.
        private static final int FIRST_NAME = 1000;
        private static final int AMOUNT = 1000;
        private static final int NIGHTS = 1001;
        private static final int KIND = 1002;
        private static final int KIN = 1003;
        private static final int STANDING = 1004;
        private static final int LEFT = 1005;
        private static final int NIGHT = 1006;
        private static final int SOUL = 1007;
        private static final int NAMES = 8;
        private static final int FIRST_DEED = 2000;
        private static final int ADD = 2000;
        private static final int TAKE = 2001;
        private static final int TIMES = 2002;
        private static final int OVER = 2003;
        private static final int REST = 2004;
        private static final int LEAST = 2005;
        private static final int MOST = 2006;
        private static final int[] UNTOLD = {AMOUNT, AMOUNT, NIGHTS, TIMES, 10, OVER, ADD, 1, ADD};

        private final int[] row = new int[MOST_LAW];
        private final int[] facts = new int[NAMES];
        // Six open ones hold three values each at most, so this is never full.
        private final int[] stack = new int[32];
        private int length;

        Law() {
            becomeUntold();
        }

        void becomeUntold() {
            copyRow(UNTOLD, row);
            length = UNTOLD.length;
        }

        void copyFrom(Law other) {
            copyRow(other.row, row);
            length = other.length;
        }

        void tellLoan(int amount, int nights, int kind, int kin) {
            facts[AMOUNT - FIRST_NAME] = amount;
            facts[NIGHTS - FIRST_NAME] = nights;
            facts[KIND - FIRST_NAME] = kind;
            facts[KIN - FIRST_NAME] = kin;
        }

        void tellRest(int standing, int left, int night, int soul) {
            facts[STANDING - FIRST_NAME] = standing;
            facts[LEFT - FIRST_NAME] = left;
            facts[NIGHT - FIRST_NAME] = night;
            facts[SOUL - FIRST_NAME] = soul;
        }

        int owes() {
            int top = 0;
            for (int i = 0; i < length && i < row.length; i++) {
                int part = row[i];
                if (part >= FIRST_DEED && top >= 2 && top <= stack.length) {
                    top--;
                    stack[top - 1] = result(part, stack[top - 1], stack[top]);
                } else if (part < FIRST_DEED && top < stack.length) {
                    stack[top] = part < FIRST_NAME ? part : entry(facts, part - FIRST_NAME);
                    top++;
                }
            }
            return Math.max(0, Math.min(MOST_OWED, stack[0]));
        }

        private static int result(int deed, int a, int b) {
            switch (deed) {
                case ADD: return a + b;
                case TAKE: return a - b;
                case TIMES: return a * b;
                case OVER: return b == 0 ? 0 : a / b;
                case REST: return b == 0 ? 0 : a % b;
                case LEAST: return a <= b ? a : b;
                default: return a >= b ? a : b;
            }
        }

        boolean read(Tape tape) {
            length = 0;
            return readSum(tape, 0) && tape.takeEnd();
        }

        private boolean put(int part) {
            setEntry(row, length, part);
            length++;
            return true;
        }

        private boolean readSum(Tape tape, int open) {
            if (!readProduct(tape, open)) {
                return false;
            }
            for (int i = 0; i < MOST_LAW; i++) {
                int sign = tape.peek();
                if (sign != '+' && sign != '-') {
                    return true;
                }
                if (!tape.takeSign(sign) || !readProduct(tape, open)) {
                    return false;
                }
                put(sign == '+' ? ADD : TAKE);
            }
            return true;
        }

        private boolean readProduct(Tape tape, int open) {
            if (!readUnit(tape, open)) {
                return false;
            }
            for (int i = 0; i < MOST_LAW; i++) {
                int sign = tape.peek();
                if (sign != '*' && sign != '/' && sign != '%') {
                    return true;
                }
                if (!tape.takeSign(sign) || !readUnit(tape, open)) {
                    return false;
                }
                put(sign == '*' ? TIMES : sign == '/' ? OVER : REST);
            }
            return true;
        }

        private boolean readUnit(Tape tape, int open) {
            int sign = tape.peek();
            if (isDigit(sign)) {
                int number = tape.takeNumber(0, 999);
                return number != NONE && put(number);
            }
            if (sign == '(') {
                return readBracket(tape, open);
            }
            if (!tape.takeWord()) {
                return false;
            }
            if (tape.wordIs("least")) {
                return readPair(tape, open) && put(LEAST);
            }
            if (tape.wordIs("most")) {
                return readPair(tape, open) && put(MOST);
            }
            int name = nameOf(tape);
            return name == NONE ? tape.failAtStart(CANNOT_STAND) : put(name);
        }

        private boolean readBracket(Tape tape, int open) {
            if (open >= MOST_OPEN) {
                return tape.failHere(TOO_MANY);
            }
            return tape.takeSign('(') && readSum(tape, open + 1) && tape.takeSign(')');
        }

        private boolean readPair(Tape tape, int open) {
            if (open >= MOST_OPEN) {
                return tape.failAtStart(TOO_MANY);
            }
            return tape.takeSign('[') && readSum(tape, open + 1) && tape.takeSign(',')
                    && readSum(tape, open + 1) && tape.takeSign(']');
        }

        private static int nameOf(Tape tape) {
            if (tape.wordIs("amount")) {
                return AMOUNT;
            }
            if (tape.wordIs("nights")) {
                return NIGHTS;
            }
            if (tape.wordIs("kind")) {
                return KIND;
            }
            if (tape.wordIs("kin")) {
                return KIN;
            }
            if (tape.wordIs("standing")) {
                return STANDING;
            }
            if (tape.wordIs("left")) {
                return LEFT;
            }
            if (tape.wordIs("night")) {
                return NIGHT;
            }
            return tape.wordIs("soul") ? SOUL : NONE;
        }
    }

    /** WORK as a row of STEPS; an again holds where the STEPS behind it begin. */
    private static final class Work {
        private static final int LEND = 0;
        private static final int PAY = 1;
        private static final int EARN = 2;
        private static final int SEAL = 3;
        private static final int OPEN = 4;
        private static final int NIGHT = 5;
        private static final int AGAIN = 6;
        // The shortest STEP, pay, takes five bytes of the text.
        private static final int MOST_STEPS = MOST_WORK / 5;
        private static final int BEHIND = 5;
        private static final int STEP_SIZE = 6;

        private final int[] row = new int[MOST_STEPS * STEP_SIZE];
        private int steps;
        private int slabs;
        private int souls;
        private int begun;
        private int done;
        private int refused;

        boolean read(Tape tape, County county) {
            steps = 0;
            begun = 0;
            done = 0;
            refused = 0;
            slabs = county.slabs;
            souls = county.souls;
            return readSteps(tape, 0);
        }

        private boolean readSteps(Tape tape, int open) {
            for (int i = 0; i < MOST_WORK; i++) {
                int sign = tape.peek();
                if (open == 0 ? sign == NONE : sign == ']') {
                    return true;
                }
                if (!tape.takeWord() || !readStep(tape, open) || !tape.takeSign(';')) {
                    return false;
                }
            }
            return true;
        }

        private boolean readStep(Tape tape, int open) {
            int step = steps;
            steps++;
            if (tape.wordIs("lend")) {
                return begin(step, LEND) && readNumber(tape, step, 1, 0, souls - 1)
                        && readNumber(tape, step, 2, 0, slabs - 1)
                        && readNumber(tape, step, 3, 1, MOST_AMOUNT)
                        && readNumber(tape, step, 4, 1, MOST_NIGHTS_LENT);
            }
            if (tape.wordIs("pay")) {
                return begin(step, PAY) && readNumber(tape, step, 1, 0, MOST_LOANS - 1);
            }
            if (tape.wordIs("earn")) {
                return begin(step, EARN) && readNumber(tape, step, 1, 0, souls - 1)
                        && readNumber(tape, step, 2, 1, MOST_AMOUNT);
            }
            if (tape.wordIs("seal")) {
                return begin(step, SEAL) && readNumber(tape, step, 1, 0, slabs - 1);
            }
            if (tape.wordIs("open")) {
                return begin(step, OPEN) && readNumber(tape, step, 1, 0, slabs - 1);
            }
            if (tape.wordIs("night")) {
                return begin(step, NIGHT);
            }
            if (tape.wordIs("again")) {
                return begin(step, AGAIN) && readAgain(tape, step, open);
            }
            return tape.failAtStart(CANNOT_STAND);
        }

        private boolean begin(int step, int deed) {
            setEntry(row, step * STEP_SIZE, deed);
            return true;
        }

        private boolean readNumber(Tape tape, int step, int field, int least, int most) {
            int number = tape.takeNumber(least, most);
            setEntry(row, step * STEP_SIZE + field, number);
            return number != NONE;
        }

        private boolean readAgain(Tape tape, int step, int open) {
            if (open >= MOST_OPEN) {
                return tape.failAtStart(TOO_MANY);
            }
            if (!readNumber(tape, step, 1, 0, 30) || !tape.takeSign('[') || !readSteps(tape, open + 1)) {
                return false;
            }
            setEntry(row, step * STEP_SIZE + BEHIND, steps);
            return tape.takeSign(']');
        }

        private int field(int step, int field) {
            return entry(row, step * STEP_SIZE + field);
        }

        /**
         * Does the STEPS of a part once; what was begun, done, refused is counted on.
         * Private, though the bank calls it, as is all that calls itself (LANGUAGE.md, rule 8).
         */
        private void carryOut(Rules rules, State state, int from, int to, int open) {
            int step = from;
            while (step < to && step < MOST_STEPS && begun < MOST_BEGUN && open <= MOST_OPEN) {
                begun++;
                int behind = step + 1;
                if (field(step, 0) == AGAIN) {
                    behind = Math.max(behind, field(step, BEHIND));
                    for (int i = 0; i < field(step, 1) && begun < MOST_BEGUN; i++) {
                        carryOut(rules, state, step + 1, behind, open + 1);
                    }
                } else if (isDone(rules, state, step)) {
                    done++;
                } else {
                    refused++;
                }
                step = behind;
            }
        }

        private boolean isDone(Rules rules, State state, int step) {
            int first = field(step, 1);
            switch (field(step, 0)) {
                case LEND: return rules.lend(state, first, field(step, 2), field(step, 3), field(step, 4));
                case PAY: return rules.pay(state, first);
                case EARN: return rules.earn(state, first, field(step, 2));
                case SEAL: return rules.seal(state, first);
                case OPEN: return rules.open(state, first);
                default: return rules.doNight(state);
            }
        }
    }

    /** The BOOK of those who wait. */
    private static final class Book {
        private int lines;
        private final int[] souls = new int[MOST_LINES];
        private final int[] kinds = new int[MOST_LINES];
        private final int[] amounts = new int[MOST_LINES];

        void clear() {
            lines = 0;
        }

        void copyFrom(Book other) {
            lines = other.lines;
            copyRow(other.souls, souls);
            copyRow(other.kinds, kinds);
            copyRow(other.amounts, amounts);
        }

        int soulOf(int line) {
            return entry(souls, line);
        }

        int kindOf(int line) {
            return entry(kinds, line);
        }

        int amountOf(int line) {
            return entry(amounts, line);
        }

        boolean read(Tape tape, int soulsTold) {
            lines = 0;
            // One turn more than there may be lines: the one too many is itself the FAULT.
            for (int i = 0; i <= MOST_LINES && tape.peek() != NONE; i++) {
                if (!readLine(tape, soulsTold) || !tape.takeSign(';')) {
                    return false;
                }
            }
            return true;
        }

        private boolean readLine(Tape tape, int soulsTold) {
            int soul = tape.takeNumber(0, soulsTold - 1);
            if (soul == NONE) {
                return false;
            }
            if (lines >= MOST_LINES) {
                return tape.failAtStart(TOO_MANY);
            }
            int kind = tape.takeNumber(0, MOST_KIND);
            if (kind == NONE) {
                return false;
            }
            int amount = tape.takeNumber(1, MOST_AMOUNT);
            if (amount == NONE) {
                return false;
            }
            setEntry(souls, lines, soul);
            setEntry(kinds, lines, kind);
            setEntry(amounts, lines, amount);
            lines++;
            return true;
        }
    }

    /** All that WORK changes, in one row, so that one copy keeps it or brings it back. */
    private static final class State {
        private static final int OF_SOUL = 0;
        private static final int OF_SLAB = 1;
        private static final int AMOUNT = 2;
        private static final int TAKEN = 3;
        private static final int DUE = 4;
        private static final int OVERDUE = 5;
        private static final int LOAN_SIZE = 6;

        private static final int NIGHT = 0;
        private static final int SEALED = 1;
        private static final int PAID = 2;
        private static final int LOANS = 3;
        private static final int UNDER = 4;
        private static final int STANDING = UNDER + MOST_SLABS;
        private static final int PURSE = STANDING + MOST_SOULS;
        private static final int LOAN = PURSE + MOST_SOULS;
        private static final int SIZE = LOAN + MOST_LOANS * LOAN_SIZE;

        private final int[] row = new int[SIZE];

        void begin(County county) {
            for (int i = 0; i < row.length; i++) {
                row[i] = 0;
            }
            for (int slab = 0; slab < county.slabs; slab++) {
                setUnder(slab, county.toldUnder(slab));
            }
            for (int soul = 0; soul < county.souls; soul++) {
                setStanding(soul, county.toldStanding(soul));
                setPurse(soul, county.toldPurse(soul));
            }
        }

        void copyFrom(State other) {
            copyRow(other.row, row);
        }

        int night() {
            return row[NIGHT];
        }

        void addNight() {
            row[NIGHT]++;
        }

        int sealedSlabs() {
            return row[SEALED];
        }

        boolean isSealed(int slab) {
            return (row[SEALED] >> slab & 1) == 1;
        }

        void setSealed(int slab, boolean shut) {
            int others = row[SEALED] & ~(1 << slab);
            row[SEALED] = shut ? others | 1 << slab : others;
        }

        int paid() {
            return row[PAID];
        }

        int loans() {
            return row[LOANS];
        }

        boolean hasLoan(int loan) {
            return loan >= 0 && loan < row[LOANS];
        }

        int under(int slab) {
            return entry(row, UNDER + slab);
        }

        void setUnder(int slab, int under) {
            setEntry(row, UNDER + slab, under);
        }

        int standing(int soul) {
            return entry(row, STANDING + soul);
        }

        void setStanding(int soul, int standing) {
            setEntry(row, STANDING + soul, standing);
        }

        int purse(int soul) {
            return entry(row, PURSE + soul);
        }

        void setPurse(int soul, int purse) {
            setEntry(row, PURSE + soul, purse);
        }

        int ofLoan(int loan, int field) {
            return entry(row, LOAN + loan * LOAN_SIZE + field);
        }

        private void setOfLoan(int loan, int field, int value) {
            setEntry(row, LOAN + loan * LOAN_SIZE + field, value);
        }

        boolean isOverdue(int loan) {
            return ofLoan(loan, OVERDUE) == 1;
        }

        void setOverdue(int loan) {
            setOfLoan(loan, OVERDUE, 1);
        }

        void addLoan(int soul, int slab, int n, int t) {
            int loan = row[LOANS];
            if (loan < MOST_LOANS) {
                setOfLoan(loan, OF_SOUL, soul);
                setOfLoan(loan, OF_SLAB, slab);
                setOfLoan(loan, AMOUNT, n);
                setOfLoan(loan, TAKEN, night());
                setOfLoan(loan, DUE, night() + t);
                setOfLoan(loan, OVERDUE, 0);
                row[LOANS] = loan + 1;
            }
        }

        /** Those behind the LOAN that is paid move up by one. */
        void endLoan(int loan) {
            if (hasLoan(loan)) {
                for (int i = LOAN + loan * LOAN_SIZE; i + LOAN_SIZE < row.length; i++) {
                    row[i] = row[i + LOAN_SIZE];
                }
                row[LOANS]--;
                row[PAID]++;
            }
        }

        int loansWhere(int field, int value) {
            int bits = 0;
            for (int loan = 0; loan < loans(); loan++) {
                if (ofLoan(loan, field) == value) {
                    bits |= 1 << loan;
                }
            }
            return bits;
        }

        int overdue() {
            return loansWhere(OVERDUE, 1);
        }

        int lentWhere(int field, int value) {
            int sum = 0;
            for (int loan = 0; loan < loans(); loan++) {
                if (ofLoan(loan, field) == value) {
                    sum += ofLoan(loan, AMOUNT);
                }
            }
            return sum;
        }
    }

    /** A state with those that its WORKS were done on: what an IMAGE keeps. */
    private static final class Page {
        private final State now;
        private final State[] past;
        private int works;

        Page() {
            now = new State();
            past = new State[MOST_WORKS];
            for (int i = 0; i < past.length; i++) {
                past[i] = new State();
            }
        }

        void begin(County county) {
            now.begin(county);
            works = 0;
        }

        void keep() {
            if (works >= 0 && works < past.length) {
                past[works].copyFrom(now);
                works++;
            }
        }

        boolean goBack() {
            if (works <= 0 || works > past.length) {
                return false;
            }
            works--;
            now.copyFrom(past[works]);
            return true;
        }

        void copyFrom(Page other) {
            now.copyFrom(other.now);
            works = other.works;
            for (int i = 0; i < works && i < past.length; i++) {
                past[i].copyFrom(other.past[i]);
            }
        }
    }

    /** What may be done to a state, and what is owed in it. */
    private static final class Rules {
        private final County county;
        private final Law law;

        Rules(County county, Law law) {
            this.county = county;
            this.law = law;
        }

        /** Whether a SLAB LENDS, but for how many LOANS there are. */
        boolean isOpenTo(State state, int soul, int slab, int n) {
            return !state.isSealed(slab) && state.under(slab) >= n
                    && (state.standing(soul) > 0 || county.isKin(soul, slab));
        }

        boolean wouldLend(State state, int soul, int slab, int n) {
            return state.loans() < MOST_LOANS && isOpenTo(state, soul, slab, n);
        }

        int owes(State state, int loan) {
            int soul = state.ofLoan(loan, State.OF_SOUL);
            int slab = state.ofLoan(loan, State.OF_SLAB);
            int nights = state.night() - state.ofLoan(loan, State.TAKEN);
            law.tellLoan(state.ofLoan(loan, State.AMOUNT), nights, county.kindOf(slab), kinAsNumber(soul, slab));
            law.tellRest(state.standing(soul), state.under(slab), state.night(), soul);
            return law.owes();
        }

        int wouldOwe(State state, int soul, int slab, int n, int t) {
            law.tellLoan(n, t, county.kindOf(slab), kinAsNumber(soul, slab));
            law.tellRest(state.standing(soul), state.under(slab) - n, state.night() + t, soul);
            return law.owes();
        }

        private int kinAsNumber(int soul, int slab) {
            return county.isKin(soul, slab) ? 1 : 0;
        }

        /** Of all LOANS of a SOUL; of all, if the SOUL is NONE. */
        int owesInAll(State state, int soul) {
            int sum = 0;
            for (int loan = 0; loan < state.loans(); loan++) {
                if (soul == NONE || state.ofLoan(loan, State.OF_SOUL) == soul) {
                    sum += owes(state, loan);
                }
            }
            return sum;
        }

        boolean lend(State state, int soul, int slab, int n, int t) {
            if (!wouldLend(state, soul, slab, n)) {
                return false;
            }
            state.setUnder(slab, state.under(slab) - n);
            state.addLoan(soul, slab, n, t);
            return true;
        }

        boolean pay(State state, int loan) {
            if (!state.hasLoan(loan)) {
                return false;
            }
            int soul = state.ofLoan(loan, State.OF_SOUL);
            int slab = state.ofLoan(loan, State.OF_SLAB);
            int price = owes(state, loan);
            if (price > state.purse(soul)) {
                return false;
            }
            state.setPurse(soul, state.purse(soul) - price);
            state.setUnder(slab, Math.min(MOST_UNDER, state.under(slab) + price));
            if (!state.isOverdue(loan)) {
                state.setStanding(soul, Math.min(MOST_STANDING, state.standing(soul) + 1));
            }
            state.endLoan(loan);
            return true;
        }

        boolean earn(State state, int soul, int n) {
            if (state.purse(soul) >= MOST_IN_PURSE) {
                return false;
            }
            state.setPurse(soul, Math.min(MOST_IN_PURSE, state.purse(soul) + n));
            return true;
        }

        boolean seal(State state, int slab) {
            boolean can = !state.isSealed(slab);
            state.setSealed(slab, true);
            return can;
        }

        boolean open(State state, int slab) {
            boolean can = state.isSealed(slab);
            state.setSealed(slab, false);
            return can;
        }

        boolean doNight(State state) {
            if (state.night() >= LAST_NIGHT) {
                return false;
            }
            passNight(state);
            return true;
        }

        void passNight(State state) {
            state.addNight();
            for (int loan = 0; loan < state.loans(); loan++) {
                if (state.ofLoan(loan, State.DUE) < state.night() && !state.isOverdue(loan)) {
                    int soul = state.ofLoan(loan, State.OF_SOUL);
                    state.setOverdue(loan);
                    state.setStanding(soul, Math.max(0, state.standing(soul) - 1));
                    state.setSealed(state.ofLoan(loan, State.OF_SLAB), true);
                }
            }
        }
    }

    /** SERVES and CALL, by which sets of lines the SLABS can serve together. */
    private static final class Serving {
        // One line more outweighs all that six lines can ask for together.
        private static final int LINE = 1000;

        private final int[] amounts = new int[MOST_LINES];
        private final int[] linesOf = new int[MOST_SLABS];
        private final int[] room = new int[MOST_SLABS];
        private final int[] sums = new int[1 << MOST_LINES];
        private int lines;
        private int slabs;

        void begin(Book book, Rules rules, State state) {
            lines = Math.min(book.lines, MOST_LINES);
            slabs = Math.min(rules.county.slabs, MOST_SLABS);
            for (int line = 0; line < lines; line++) {
                setEntry(amounts, line, book.amountOf(line));
            }
            for (int slab = 0; slab < slabs; slab++) {
                setEntry(room, slab, state.under(slab));
                setEntry(linesOf, slab, 0);
                for (int line = 0; line < lines; line++) {
                    if (book.kindOf(line) == rules.county.kindOf(slab)
                            && rules.isOpenTo(state, book.soulOf(line), slab, book.amountOf(line))) {
                        setEntry(linesOf, slab, entry(linesOf, slab) | 1 << line);
                    }
                }
            }
            fillSums();
        }

        private void fillSums() {
            for (int set = 0; set < 1 << lines; set++) {
                int sum = 0;
                for (int line = 0; line < lines; line++) {
                    sum += (set >> line & 1) * entry(amounts, line);
                }
                setEntry(sums, set, sum);
            }
        }

        int mostLines() {
            return bestFrom(0) / LINE;
        }

        int mostAmount() {
            return bestFrom(0) % LINE;
        }

        /** Gives lines their SLABS one by one, each the least that the best way still allows. */
        int slabOf(int line) {
            int best = bestFrom(0);
            int given = NONE;
            for (int i = 0; i <= line && i < lines; i++) {
                given = leastSlab(i, best);
                if (given != NONE) {
                    best -= LINE + entry(amounts, i);
                }
            }
            return given;
        }

        /** The room of the SLAB that is found stays taken. */
        private int leastSlab(int line, int best) {
            int amount = entry(amounts, line);
            for (int slab = 0; slab < slabs; slab++) {
                int free = entry(room, slab);
                if ((entry(linesOf, slab) >> line & 1) == 1 && free >= amount) {
                    setEntry(room, slab, free - amount);
                    if (LINE + amount + bestFrom(line + 1) == best) {
                        return slab;
                    }
                    setEntry(room, slab, free);
                }
            }
            return NONE;
        }

        /** The least that a SLAB more needs under it, so that it serves what the others can't. */
        int leastMore(Book book, int kind) {
            int every = (1 << lines) - 1;
            int wanting = 0;
            for (int line = 0; line < lines; line++) {
                if (book.kindOf(line) == kind) {
                    wanting |= 1 << line;
                }
            }
            long reached = reachedFrom(0);
            int least = NONE;
            for (int set = 0; set <= every; set++) {
                int sum = entry(sums, set);
                if ((set & ~wanting) == 0 && (reached >>> (every & ~set) & 1) == 1
                        && sum <= MOST_UNDER && (least == NONE || sum < least)) {
                    least = sum;
                }
            }
            return least;
        }

        /** LINE for each line from this one on that is served at best, and what they get. */
        private int bestFrom(int first) {
            long reached = reachedFrom(first);
            int best = 0;
            for (int set = 0; set < 1 << lines; set++) {
                if ((reached >>> set & 1) == 1) {
                    best = Math.max(best, Integer.bitCount(set) * LINE + entry(sums, set));
                }
            }
            return best;
        }

        /** Bit by bit, whether such a set of lines from this one on can be served. */
        private long reachedFrom(int first) {
            long reached = 1;
            for (int slab = 0; slab < slabs; slab++) {
                long before = reached;
                for (int set = 0; set < 1 << lines; set++) {
                    if ((before >>> set & 1) == 1) {
                        int more = entry(linesOf, slab) & -(1 << first) & ~set;
                        reached |= joined(set, more, entry(room, slab));
                    }
                }
            }
            return reached;
        }

        private long joined(int set, int more, int free) {
            long reached = 0;
            for (int part = more; part > 0; part = part - 1 & more) {
                if (entry(sums, part) <= free) {
                    reached |= 1L << (set | part);
                }
            }
            return reached;
        }
    }

    /** WINTERS, drawn by a SEED. */
    private static final class Winter {
        private int seed;

        void pass(Rules rules, State state, int firstSeed, int q, int nights) {
            int souls = rules.county.souls;
            int slabs = rules.county.slabs;
            seed = firstSeed;
            for (int i = 0; i < nights; i++) {
                if (souls > 0 && slabs > 0) {
                    int soul = draw(souls);
                    int slab = draw(slabs);
                    int n = draw(20) + 1;
                    int t = draw(9) + 1;
                    rules.lend(state, soul, slab, n, t);
                    if (draw(16) < q) {
                        rules.pay(state, 0);
                    }
                }
                rules.passNight(state);
            }
        }

        private int draw(int by) {
            seed = seed * 1103515245 + 12345;
            return by > 0 ? (seed >>> 16 & 0x7fff) % by : 0;
        }
    }
}
