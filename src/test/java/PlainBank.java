import java.math.BigInteger;
import java.util.ArrayList;
import java.util.Arrays;
import java.util.Comparator;
import java.util.List;
import java.util.NoSuchElementException;

/** The document once more, told in the slowest and plainest way, to hold CryptBank against. */
final class PlainBank {
    private static final class Fault extends RuntimeException {
        private static final long serialVersionUID = 1L;
        final int kind;
        final int at;

        Fault(int kind, int at) {
            this.kind = kind;
            this.at = at;
        }
    }

    private record Token(char sort, String text, int at) { }

    private interface Expression {
        int value(int[] facts);
    }

    private record Line(int soul, int kind, int n) { }

    private record Step(String word, int[] numbers, List<Step> inner) { }

    private record Loan(int soul, int slab, int n, int taken, int due, boolean overdue) { }

    private static final class Snap {
        int night;
        int paid;
        boolean[] sealed;
        int[] under;
        int[] standing;
        int[] purse;
        List<Loan> loans = new ArrayList<>();

        Snap copy() {
            Snap other = new Snap();
            other.night = night;
            other.paid = paid;
            other.sealed = sealed.clone();
            other.under = under.clone();
            other.standing = standing.clone();
            other.purse = purse.clone();
            other.loans = new ArrayList<>(loans);
            return other;
        }
    }

    private record Kept(Snap now, List<Snap> past) { }

    private static final String[] NAMES =
            {"amount", "nights", "kind", "kin", "standing", "left", "night", "soul"};

    private String tape = "";
    private int faultAt = -1;
    private List<int[]> slabsTold = new ArrayList<>();
    private List<int[]> soulsTold = new ArrayList<>();
    private boolean[][] kin = new boolean[6][8];
    private Expression law;
    private List<Line> lines = new ArrayList<>();
    private Snap now = fresh();
    private List<Snap> past = new ArrayList<>();
    private final List<Kept> images = new ArrayList<>();
    private int refusedSteps;
    private int noSuch;
    private int illegal;

    // Texts.

    private static List<Token> tokens(String text) {
        List<Token> all = new ArrayList<>();
        int i = 0;
        while (i < text.length()) {
            char c = text.charAt(i);
            int from = i;
            if (c == ' ') {
                i++;
                continue;
            }
            char sort = c;
            i++;
            if (c >= '0' && c <= '9') {
                sort = 'n';
                while (i < text.length() && text.charAt(i) >= '0' && text.charAt(i) <= '9') {
                    i++;
                }
            } else if (c >= 'a' && c <= 'z') {
                sort = 'w';
                while (i < text.length() && text.charAt(i) >= 'a' && text.charAt(i) <= 'z') {
                    i++;
                }
            }
            all.add(new Token(sort, text.substring(from, i), from));
        }
        all.add(new Token('$', "", text.length()));
        return all;
    }

    private static final class Reader {
        final List<Token> tokens;
        int i;

        Reader(String text) {
            tokens = tokens(text);
        }

        Token peek() {
            return tokens.get(i);
        }

        boolean ends() {
            return peek().sort() == '$' && peek().text().isEmpty();
        }

        boolean isSign(char sign) {
            return peek().text().equals(String.valueOf(sign));
        }

        Token take() {
            return tokens.get(i++);
        }

        void sign(char sign) {
            if (!isSign(sign)) {
                throw new Fault(1, peek().at());
            }
            i++;
        }

        Token word(String... allowed) {
            if (ends() || peek().sort() != 'w' || !Arrays.asList(allowed).contains(peek().text())) {
                throw new Fault(1, peek().at());
            }
            return take();
        }

        int number(int least, int most) {
            if (ends() || peek().sort() != 'n') {
                throw new Fault(1, peek().at());
            }
            Token token = take();
            BigInteger value = new BigInteger(token.text());
            if (value.compareTo(BigInteger.valueOf(least)) < 0 || value.compareTo(BigInteger.valueOf(most)) > 0) {
                throw new Fault(2, token.at());
            }
            return value.intValue();
        }
    }

    private Expression sum(Reader in, int open) {
        Expression left = product(in, open);
        while (in.isSign('+') || in.isSign('-')) {
            boolean add = in.take().text().equals("+");
            Expression a = left;
            Expression b = product(in, open);
            left = add ? f -> a.value(f) + b.value(f) : f -> a.value(f) - b.value(f);
        }
        return left;
    }

    private Expression product(Reader in, int open) {
        Expression left = unit(in, open);
        while (in.isSign('*') || in.isSign('/') || in.isSign('%')) {
            String sign = in.take().text();
            Expression a = left;
            Expression b = unit(in, open);
            left = switch (sign) {
                case "*" -> f -> a.value(f) * b.value(f);
                case "/" -> f -> b.value(f) == 0 ? 0 : (int) ((long) a.value(f) / b.value(f));
                default -> f -> b.value(f) == 0 ? 0 : (int) ((long) a.value(f) % b.value(f));
            };
        }
        return left;
    }

    private Expression unit(Reader in, int open) {
        if (!in.ends() && in.peek().sort() == 'n') {
            int number = in.number(0, 999);
            return f -> number;
        }
        if (in.isSign('(')) {
            if (open == 6) {
                throw new Fault(3, in.peek().at());
            }
            in.sign('(');
            Expression inner = sum(in, open + 1);
            in.sign(')');
            return inner;
        }
        Token word = in.word("amount", "nights", "kind", "kin", "standing", "left", "night", "soul", "least", "most");
        int name = Arrays.asList(NAMES).indexOf(word.text());
        if (name >= 0) {
            return f -> f[name];
        }
        if (open == 6) {
            throw new Fault(3, word.at());
        }
        in.sign('[');
        Expression a = sum(in, open + 1);
        in.sign(',');
        Expression b = sum(in, open + 1);
        in.sign(']');
        return word.text().equals("least")
                ? f -> Math.min(a.value(f), b.value(f)) : f -> Math.max(a.value(f), b.value(f));
    }

    private String takeText(int n, int most) {
        if (n < 0 || n > most || n > tape.length()) {
            throw illegal();
        }
        String text = tape.substring(0, n);
        tape = "";
        faultAt = -1;
        return text;
    }

    private int fault(Fault fault) {
        faultAt = fault.at;
        return fault.kind - 10;
    }

    int feed(int a, int b, int c, int d, int e) {
        if (tape.length() > 580) {
            return -1;
        }
        StringBuilder more = new StringBuilder(tape);
        for (int number : new int[] {a, b, c, d, e}) {
            more.append((char) (number >>> 24)).append((char) (number >>> 16 & 255));
            more.append((char) (number >>> 8 & 255)).append((char) (number & 255));
        }
        tape = more.toString();
        return tape.length();
    }

    int county(int n) {
        Reader in = new Reader(takeText(n, 600));
        List<int[]> slabs = new ArrayList<>();
        List<int[]> souls = new ArrayList<>();
        boolean[][] ties = new boolean[6][8];
        try {
            int clauses = 0;
            while (!in.ends()) {
                Token word = in.word("slab", "soul", "kin");
                clauses++;
                boolean slab = word.text().equals("slab");
                boolean soul = word.text().equals("soul");
                if (clauses > 60 || slab && slabs.size() == 8 || soul && souls.size() == 6) {
                    throw new Fault(3, word.at());
                }
                if (slab) {
                    slabs.add(new int[] {in.number(0, 5), in.number(0, 60)});
                } else if (soul) {
                    souls.add(new int[] {in.number(0, 9), in.number(0, 99)});
                } else {
                    int a = in.number(0, souls.size() - 1);
                    ties[a][in.number(0, slabs.size() - 1)] = true;
                }
                in.sign(';');
            }
        } catch (Fault fault) {
            return fault(fault);
        }
        slabsTold = slabs;
        soulsTold = souls;
        kin = ties;
        law = null;
        lines = new ArrayList<>();
        now = fresh();
        past = new ArrayList<>();
        images.clear();
        refusedSteps = 0;
        return slabs.size();
    }

    private Snap fresh() {
        Snap snap = new Snap();
        snap.sealed = new boolean[slabsTold.size()];
        snap.under = slabsTold.stream().mapToInt(s -> s[1]).toArray();
        snap.standing = soulsTold.stream().mapToInt(s -> s[0]).toArray();
        snap.purse = soulsTold.stream().mapToInt(s -> s[1]).toArray();
        return snap;
    }

    int law(int n) {
        Reader in = new Reader(takeText(n, 150));
        try {
            Expression read = sum(in, 0);
            if (!in.ends()) {
                throw new Fault(1, in.peek().at());
            }
            law = read;
            return 1;
        } catch (Fault fault) {
            return fault(fault);
        }
    }

    int book(int n) {
        Reader in = new Reader(takeText(n, 60));
        List<Line> read = new ArrayList<>();
        try {
            while (!in.ends()) {
                int at = in.peek().at();
                int soul = in.number(0, soulsTold.size() - 1);
                if (read.size() == 6) {
                    throw new Fault(3, at);
                }
                read.add(new Line(soul, in.number(0, 5), in.number(1, 60)));
                in.sign(';');
            }
        } catch (Fault fault) {
            return fault(fault);
        }
        lines = read;
        return read.size();
    }

    private List<Step> steps(Reader in, int open) {
        List<Step> all = new ArrayList<>();
        while (open == 0 ? !in.ends() : !in.isSign(']')) {
            Token word = in.word("lend", "pay", "earn", "seal", "open", "night", "again");
            int lastSoul = soulsTold.size() - 1;
            int lastSlab = slabsTold.size() - 1;
            int[] numbers = {};
            List<Step> inner = null;
            switch (word.text()) {
                case "lend" -> numbers = new int[] {in.number(0, lastSoul), in.number(0, lastSlab),
                        in.number(1, 60), in.number(1, 40)};
                case "pay" -> numbers = new int[] {in.number(0, 9)};
                case "earn" -> numbers = new int[] {in.number(0, lastSoul), in.number(1, 60)};
                case "seal", "open" -> numbers = new int[] {in.number(0, lastSlab)};
                case "again" -> {
                    if (open == 6) {
                        throw new Fault(3, word.at());
                    }
                    numbers = new int[] {in.number(0, 30)};
                    in.sign('[');
                    inner = steps(in, open + 1);
                    in.sign(']');
                }
                default -> { }
            }
            in.sign(';');
            all.add(new Step(word.text(), numbers, inner));
        }
        return all;
    }

    int work(int n) {
        String text = takeText(n, 150);
        if (past.size() == 16) {
            return -20;
        }
        List<Step> steps;
        try {
            steps = steps(new Reader(text), 0);
        } catch (Fault fault) {
            return fault(fault);
        }
        past.add(now.copy());
        int[] tally = new int[3];
        doSteps(steps, tally);
        refusedSteps = tally[2];
        return tally[1];
    }

    /** The tally: begun, done, refused. */
    private void doSteps(List<Step> steps, int[] tally) {
        for (Step step : steps) {
            if (tally[0] == 200) {
                return;
            }
            tally[0]++;
            if (step.word().equals("again")) {
                for (int i = 0; i < step.numbers()[0]; i++) {
                    doSteps(step.inner(), tally);
                }
            } else {
                tally[doStep(now, step.word(), step.numbers()) ? 1 : 2]++;
            }
        }
    }

    // What is done.

    private boolean doStep(Snap at, String word, int... p) {
        switch (word) {
            case "lend":
                if (!wouldLend(at, p[0], p[1], p[2])) {
                    return false;
                }
                at.under[p[1]] -= p[2];
                at.loans.add(new Loan(p[0], p[1], p[2], at.night, at.night + p[3], false));
                return true;
            case "pay":
                if (p[0] >= at.loans.size()) {
                    return false;
                }
                Loan loan = at.loans.get(p[0]);
                int owes = owes(at, loan);
                if (owes > at.purse[loan.soul()]) {
                    return false;
                }
                at.purse[loan.soul()] -= owes;
                at.under[loan.slab()] = Math.min(99, at.under[loan.slab()] + owes);
                at.loans.remove(p[0]);
                at.paid++;
                if (!loan.overdue()) {
                    at.standing[loan.soul()] = Math.min(9, at.standing[loan.soul()] + 1);
                }
                return true;
            case "earn":
                if (at.purse[p[0]] == 300) {
                    return false;
                }
                at.purse[p[0]] = Math.min(300, at.purse[p[0]] + p[1]);
                return true;
            case "seal":
            case "open":
                boolean seal = word.equals("seal");
                if (at.sealed[p[0]] == seal) {
                    return false;
                }
                at.sealed[p[0]] = seal;
                return true;
            default:
                if (at.night >= 400) {
                    return false;
                }
                pass(at);
                return true;
        }
    }

    private void pass(Snap at) {
        at.night++;
        for (int i = 0; i < at.loans.size(); i++) {
            Loan l = at.loans.get(i);
            if (!l.overdue() && l.due() < at.night) {
                at.loans.set(i, new Loan(l.soul(), l.slab(), l.n(), l.taken(), l.due(), true));
                at.standing[l.soul()] = Math.max(0, at.standing[l.soul()] - 1);
                at.sealed[l.slab()] = true;
            }
        }
    }

    private boolean opensTo(Snap at, int soul, int slab, int n) {
        return !at.sealed[slab] && at.under[slab] >= n && (at.standing[soul] > 0 || kin[soul][slab]);
    }

    private boolean wouldLend(Snap at, int soul, int slab, int n) {
        return opensTo(at, soul, slab, n) && at.loans.size() < 10;
    }

    private int price(int... facts) {
        int value = law == null ? facts[0] + facts[0] * facts[1] / 10 + 1 : law.value(facts);
        return value < 0 ? 0 : value > 200 ? 200 : value;
    }

    private int owes(Snap at, Loan l) {
        return price(l.n(), at.night - l.taken(), slabsTold.get(l.slab())[0], kin[l.soul()][l.slab()] ? 1 : 0,
                at.standing[l.soul()], at.under[l.slab()], at.night, l.soul());
    }

    private int owesAll(Snap at, int soul) {
        return at.loans.stream().filter(l -> soul < 0 || l.soul() == soul).mapToInt(l -> owes(at, l)).sum();
    }

    // Refusals.

    private IllegalArgumentException illegal() {
        illegal++;
        return new IllegalArgumentException();
    }

    private void range(int value, int least, int most) {
        if (value < least || value > most) {
            throw illegal();
        }
    }

    private void there(int index, int size) {
        if (index < 0 || index >= size) {
            noSuch++;
            throw new NoSuchElementException();
        }
    }

    private void isSoul(int soul) {
        there(soul, soulsTold.size());
    }

    private void isSlab(int slab) {
        there(slab, slabsTold.size());
    }

    // What is asked.

    int fault() {
        return faultAt;
    }

    int undo() {
        if (past.isEmpty()) {
            return -1;
        }
        now = past.remove(past.size() - 1);
        refusedSteps = 0;
        return past.size();
    }

    private static int bits(boolean[] row) {
        int bits = 0;
        for (int i = 0; i < row.length; i++) {
            bits += row[i] ? 1 << i : 0;
        }
        return bits;
    }

    private int overdue(Snap at) {
        boolean[] row = new boolean[at.loans.size()];
        for (int i = 0; i < row.length; i++) {
            row[i] = at.loans.get(i).overdue();
        }
        return bits(row);
    }

    int told(int what) {
        range(what, 0, 11);
        int[] answers = {slabsTold.size(), soulsTold.size(), now.loans.size(), now.night, bits(now.sealed),
            Arrays.stream(now.under).sum(), owesAll(now, -1), overdue(now), Arrays.stream(now.purse).sum(),
            lines.size(), refusedSteps, now.paid};
        return answers[what];
    }

    int slab(int slab, int what) {
        isSlab(slab);
        range(what, 0, 5);
        boolean[] own = new boolean[now.loans.size()];
        for (int i = 0; i < own.length; i++) {
            own[i] = now.loans.get(i).slab() == slab;
        }
        boolean[] kindred = new boolean[6];
        for (int i = 0; i < 6; i++) {
            kindred[i] = kin[i][slab];
        }
        int[] answers = {slabsTold.get(slab)[0], now.under[slab], slabsTold.get(slab)[1],
            now.sealed[slab] ? 1 : 0, bits(own), bits(kindred)};
        return answers[what];
    }

    private boolean[] loansOf(int soul) {
        boolean[] own = new boolean[now.loans.size()];
        for (int i = 0; i < own.length; i++) {
            own[i] = now.loans.get(i).soul() == soul;
        }
        return own;
    }

    int soul(int soul, int what) {
        isSoul(soul);
        range(what, 0, 5);
        int[] answers = {now.standing[soul], soulsTold.get(soul)[0], now.purse[soul], bits(loansOf(soul)),
            owesAll(now, soul), now.loans.stream().filter(l -> l.soul() == soul).mapToInt(Loan::n).sum()};
        return answers[what];
    }

    int loan(int loan, int what) {
        there(loan, now.loans.size());
        range(what, 0, 6);
        Loan l = now.loans.get(loan);
        return new int[] {l.soul(), l.slab(), l.n(), l.taken(), l.due(), l.overdue() ? 1 : 0, owes(now, l)}[what];
    }

    int would(int amount, int nights, int kind, int kinship, int standing, int left, int night, int soul) {
        range(amount, 1, 60);
        range(nights, 0, 999);
        range(kind, 0, 5);
        range(kinship, 0, 1);
        range(standing, 0, 9);
        range(left, 0, 99);
        range(night, 0, 999);
        range(soul, 0, 5);
        return price(amount, nights, kind, kinship, standing, left, night, soul);
    }

    boolean lends(int soul, int slab, int n) {
        isSoul(soul);
        isSlab(slab);
        range(n, 1, 60);
        return wouldLend(now, soul, slab, n);
    }

    int ahead(int n, int what) {
        range(n, 0, 99);
        range(what, 0, 2);
        Snap then = now.copy();
        for (int i = 0; i < n; i++) {
            pass(then);
        }
        return new int[] {owesAll(then, -1), bits(then.sealed), overdue(then)}[what];
    }

    int cheapest(int soul, int kind, int n, int t) {
        isSoul(soul);
        range(kind, 0, 5);
        range(n, 1, 60);
        range(t, 1, 40);
        List<int[]> offers = new ArrayList<>();
        for (int slab = 0; slab < slabsTold.size(); slab++) {
            if (slabsTold.get(slab)[0] == kind && wouldLend(now, soul, slab, n)) {
                offers.add(new int[] {slab, price(n, t, kind, kin[soul][slab] ? 1 : 0, now.standing[soul],
                        now.under[slab] - n, now.night + t, soul)});
            }
        }
        return offers.stream().min(Comparator.<int[]>comparingInt(o -> o[1]).thenComparingInt(o -> o[0]))
                .map(o -> o[0]).orElse(-1);
    }

    int clears(int soul) {
        isSoul(soul);
        List<int[]> sets = new ArrayList<>();
        boolean[] own = loansOf(soul);
        for (int set = 0; set < 1 << own.length; set++) {
            int owes = 0;
            boolean allOwn = true;
            for (int i = 0; i < own.length; i++) {
                if ((set & 1 << i) != 0) {
                    owes += owes(now, now.loans.get(i));
                    allOwn &= own[i];
                }
            }
            if (allOwn && owes <= now.purse[soul]) {
                sets.add(new int[] {-Integer.bitCount(set), owes, set});
            }
        }
        sets.sort(Arrays::compare);
        return sets.get(0)[2];
    }

    private int comesTo(int from, int n) {
        if (from == now.loans.size()) {
            return n == 0 ? 1 : 0;
        }
        return comesTo(from + 1, n) + comesTo(from + 1, n - owes(now, now.loans.get(from)));
    }

    int comes(int n) {
        range(n, 0, 999);
        return comesTo(0, n);
    }

    private int[] bestWay;
    private int[] bestScore;

    /** All ways in the document's order: a way counts only if it is better than all ahead of it. */
    private void ways(int line, int[] way, int[] room) {
        if (line == lines.size()) {
            int[] score = new int[2];
            for (int i = 0; i < way.length; i++) {
                score[0] += way[i] < 0 ? 0 : 1;
                score[1] += way[i] < 0 ? 0 : lines.get(i).n();
            }
            if (bestWay == null || Arrays.compare(score, bestScore) > 0) {
                bestWay = way.clone();
                bestScore = score;
            }
            return;
        }
        Line l = lines.get(line);
        for (int slab = 0; slab < room.length; slab++) {
            if (slabsTold.get(slab)[0] == l.kind() && opensTo(now, l.soul(), slab, l.n()) && room[slab] >= l.n()) {
                room[slab] -= l.n();
                way[line] = slab;
                ways(line + 1, way, room);
                room[slab] += l.n();
            }
        }
        way[line] = -1;
        ways(line + 1, way, room);
    }

    private void serve() {
        bestWay = null;
        ways(0, new int[lines.size()], now.under.clone());
    }

    int serves(int what) {
        range(what, 0, 1);
        serve();
        return bestScore[what];
    }

    int served(int line) {
        there(line, lines.size());
        serve();
        return bestWay[line];
    }

    private boolean allServed(int line, int[] room, int kind) {
        if (line == lines.size()) {
            return true;
        }
        Line l = lines.get(line);
        for (int slab = 0; slab < room.length; slab++) {
            boolean extra = slab == room.length - 1;
            boolean fits = extra ? kind == l.kind()
                    : slabsTold.get(slab)[0] == l.kind() && opensTo(now, l.soul(), slab, l.n());
            if (fits && room[slab] >= l.n()) {
                room[slab] -= l.n();
                boolean all = allServed(line + 1, room, kind);
                room[slab] += l.n();
                if (all) {
                    return true;
                }
            }
        }
        return false;
    }

    int call(int kind) {
        range(kind, 0, 5);
        for (int m = 0; m <= 99; m++) {
            int[] room = Arrays.copyOf(now.under, now.under.length + 1);
            room[room.length - 1] = m;
            if (allServed(0, room, kind)) {
                return m;
            }
        }
        return -1;
    }

    private static List<List<Integer>> orders(List<Integer> rest) {
        List<List<Integer>> all = new ArrayList<>();
        if (rest.isEmpty()) {
            all.add(new ArrayList<>());
        }
        for (Integer first : rest) {
            List<Integer> others = new ArrayList<>(rest);
            others.remove(first);
            for (List<Integer> order : orders(others)) {
                order.add(0, first);
                all.add(order);
            }
        }
        return all;
    }

    int run(int slab, int soul) {
        isSlab(slab);
        isSoul(soul);
        List<Integer> souls = new ArrayList<>();
        for (int i = 0; i < soulsTold.size(); i++) {
            souls.add(i);
        }
        int nothing = 0;
        for (List<Integer> order : orders(souls)) {
            int left = now.under[slab];
            for (int one : order) {
                int wants = Math.max(1, now.purse[one] / 2);
                if (left >= wants) {
                    left -= wants;
                } else if (one == soul) {
                    nothing++;
                }
            }
        }
        return nothing;
    }

    long all(int n, int k, int q, int part) {
        range(n, 0, 12);
        range(k, 0, 13);
        range(q, 0, 16);
        range(part, 0, 1);
        BigInteger above = BigInteger.ZERO;
        for (int set = 0; set < 1 << n; set++) {
            int back = Integer.bitCount(set);
            if (back >= k) {
                above = above.add(BigInteger.valueOf(q).pow(back).multiply(BigInteger.valueOf(16 - q).pow(n - back)));
            }
        }
        BigInteger below = BigInteger.valueOf(16).pow(n);
        BigInteger shared = above.gcd(below);
        return (part == 0 ? above : below).divide(shared).longValueExact();
    }

    int saint(int v, int w, int what) {
        range(v, 0, 99);
        range(w, 0, 99);
        range(what, 0, 2);
        int[][][] has = {{{v, v}, {0, v + w}}, {{v + w, 0}, {w, w}}};
        List<Integer> rests = new ArrayList<>();
        for (int a = 0; a < 2; a++) {
            for (int b = 0; b < 2; b++) {
                if (has[1 - a][b][0] <= has[a][b][0] && has[a][1 - b][1] <= has[a][b][1]) {
                    rests.add(10 * a + b);
                }
            }
        }
        int first = rests.isEmpty() ? -1 : rests.get(0);
        int together = first < 0 ? 0 : has[first / 10][first % 10][0] + has[first / 10][first % 10][1];
        return new int[] {rests.size(), first, together}[what];
    }

    int candles(int soul, int souls, int n) {
        isSoul(soul);
        range(souls, 0, (1 << soulsTold.size()) - 1);
        range(n, 0, 999);
        for (int bound = 1000;; bound--) {
            int given = 0;
            for (int i = 0; i < soulsTold.size(); i++) {
                given += (souls & 1 << i) == 0 ? 0 : Math.min(bound, now.purse[i]);
            }
            if (given <= n) {
                return (souls & 1 << soul) == 0 ? 0 : Math.min(bound, now.purse[soul]);
            }
        }
    }

    /** The place (what 0) or the value (1) of the least of a row; of alike ones the first. */
    private static int least(List<int[]> row, int what) {
        int[] best = null;
        for (int[] one : row) {
            if (best == null || one[1] < best[1]) {
                best = one;
            }
        }
        return best == null ? -1 : best[what];
    }

    private static int most(List<int[]> row, int what) {
        int[] best = null;
        for (int[] one : row) {
            if (best == null || one[1] > best[1]) {
                best = one;
            }
        }
        return best == null ? -1 : best[what];
    }

    int richest(int what) {
        range(what, 0, 1);
        List<int[]> row = new ArrayList<>();
        for (int i = 0; i < slabsTold.size(); i++) {
            row.add(new int[] {i, now.under[i]});
        }
        return most(row, what);
    }

    int next(int what) {
        range(what, 0, 1);
        List<int[]> row = new ArrayList<>();
        for (int i = 0; i < now.loans.size(); i++) {
            if (!now.loans.get(i).overdue()) {
                row.add(new int[] {i, now.loans.get(i).due() - now.night});
            }
        }
        return least(row, what);
    }

    int shut() {
        int bits = 0;
        for (int soul = 0; soul < soulsTold.size(); soul++) {
            bits |= 1 << soul;
            for (int slab = 0; slab < slabsTold.size(); slab++) {
                if (wouldLend(now, soul, slab, 1)) {
                    bits &= ~(1 << soul);
                }
            }
        }
        return bits;
    }

    int kind(int kind, int what) {
        range(kind, 0, 5);
        range(what, 0, 1);
        int sum = 0;
        for (int i = 0; what == 0 && i < slabsTold.size(); i++) {
            sum += slabsTold.get(i)[0] == kind ? now.under[i] : 0;
        }
        for (Loan l : now.loans) {
            sum += what == 1 && slabsTold.get(l.slab())[0] == kind ? l.n() : 0;
        }
        return sum;
    }

    int worth(int soul) {
        isSoul(soul);
        return now.purse[soul] - owesAll(now, soul);
    }

    int broke(int soul) {
        isSoul(soul);
        Snap then = now.copy();
        for (int n = 0; n < 100; n++) {
            if (owesAll(then, soul) > now.purse[soul]) {
                return n;
            }
            pass(then);
        }
        return -1;
    }

    int late(int soul, int what) {
        isSoul(soul);
        range(what, 0, 1);
        int own = bits(loansOf(soul));
        return what == 0 ? own & overdue(now) : own & ~overdue(now);
    }

    int trust(int slab, int n) {
        isSlab(slab);
        range(n, 1, 60);
        boolean[] row = new boolean[soulsTold.size()];
        for (int i = 0; i < row.length; i++) {
            row[i] = wouldLend(now, i, slab, n);
        }
        return bits(row);
    }

    int deepest(int what) {
        range(what, 0, 1);
        List<int[]> row = new ArrayList<>();
        for (int i = 0; i < now.loans.size(); i++) {
            row.add(new int[] {i, owes(now, now.loans.get(i))});
        }
        return most(row, what);
    }

    int poorest(int what) {
        range(what, 0, 1);
        List<int[]> row = new ArrayList<>();
        for (int i = 0; i < soulsTold.size(); i++) {
            row.add(new int[] {i, now.purse[i]});
        }
        return least(row, what);
    }

    private long seed;

    private int draw(int by) {
        seed = (seed * 1103515245L + 12345L) & 0xffffffffL;
        return (int) ((seed >> 16) % 32768 % by);
    }

    private Snap winterFrom(int first, int q, int nights) {
        Snap then = now.copy();
        seed = first & 0xffffffffL;
        int souls = soulsTold.size();
        int slabs = slabsTold.size();
        for (int i = 0; i < nights; i++) {
            if (souls > 0 && slabs > 0) {
                int[] p = {draw(souls), draw(slabs), draw(20) + 1, draw(9) + 1};
                doStep(then, "lend", p);
                if (draw(16) < q) {
                    doStep(then, "pay", 0);
                }
            }
            pass(then);
        }
        return then;
    }

    int winter(int first, int q, int nights, int what) {
        range(q, 0, 16);
        range(nights, 1, 96);
        range(what, 0, 3);
        Snap then = winterFrom(first, q, nights);
        return new int[] {then.loans.size(), Arrays.stream(then.under).sum(), bits(then.sealed),
            then.paid - now.paid}[what];
    }

    int span(int first, int many, int q, int nights, int what, int soul) {
        range(many, 1, 20);
        range(q, 0, 16);
        range(nights, 1, 96);
        range(what, 0, 2);
        range(soul, 0, soulsTold.size() - 1);
        List<Integer> sums = new ArrayList<>();
        int fallen = 0;
        for (int i = 0; i < many; i++) {
            Snap then = winterFrom(first + i, q, nights);
            sums.add(Arrays.stream(then.under).sum());
            fallen += then.standing[soul] == 0 ? 1 : 0;
        }
        sums.sort(null);
        return new int[] {sums.get(0), sums.get(sums.size() - 1), fallen}[what];
    }

    int image() {
        if (images.size() == 3) {
            return -1;
        }
        List<Snap> copies = new ArrayList<>();
        past.forEach(p -> copies.add(p.copy()));
        images.add(new Kept(now.copy(), copies));
        return images.size();
    }

    int restore() {
        if (images.isEmpty()) {
            return -1;
        }
        Kept kept = images.remove(images.size() - 1);
        now = kept.now();
        past = kept.past();
        refusedSteps = 0;
        return images.size();
    }

    int status(int what) {
        return what == 0 ? noSuch : what == 1 ? illegal : -1;
    }

    int count(int what) {
        return what == 0 ? images.size() : what == 1 ? tape.length() : what == 2 ? past.size() : -1;
    }
}
