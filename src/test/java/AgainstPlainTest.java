import java.lang.reflect.InvocationTargetException;
import java.lang.reflect.Method;
import java.util.ArrayList;
import java.util.Arrays;
import java.util.List;
import java.util.Random;

/** Random runs of calls, each answered by CryptBank as by PlainBank; nothing else is ever thrown. */
public final class AgainstPlainTest {
    private static final int RUNS = 2500;
    private static final int CALLS = 300;
    private static final int SERVINGS = 1500;
    private static final String[] TEXTS = {"county", "law", "work", "book"};
    private static final String ODD = "0123456789 ;[](),+-*/%abcdefghijklmnopqrstuvwxyzA\u0000\u00e9";

    private final Random random;
    private final CryptBank bank = new CryptBank();
    private final PlainBank plain = new PlainBank();
    private final List<String> told = new ArrayList<>();
    private int slabs;
    private int souls;
    private int calls;

    private AgainstPlainTest(long seed) {
        random = new Random(seed);
    }

    public static void main(String[] args) throws ReflectiveOperationException {
        int wrong = 0;
        for (int run = 0; run < RUNS + SERVINGS && wrong < 5; run++) {
            AgainstPlainTest test = new AgainstPlainTest(run);
            String fault = run < RUNS ? test.go() : test.goServing();
            if (fault != null) {
                wrong++;
                System.out.println("run " + run + ": " + fault);
                test.told.forEach(line -> System.out.println("    " + line));
            }
        }
        System.out.println(wrong == 0 ? "both banks answer alike" : wrong + " runs differ");
        System.exit(wrong == 0 ? 0 : 1);
    }

    private String go() throws ReflectiveOperationException {
        for (int i = 0; i < 3 && random.nextInt(20) > 0; i++) {
            String fault = tell("county", county());
            if (fault != null) {
                return fault;
            }
        }
        while (calls < CALLS) {
            String fault = random.nextInt(4) == 0 ? tellSome() : ask();
            if (fault != null) {
                return fault;
            }
        }
        return null;
    }

    /** Few kinds and scarce slabs, so that lines stand in each other's way. */
    private String goServing() throws ReflectiveOperationException {
        StringBuilder county = new StringBuilder();
        for (int i = 1 + random.nextInt(6); i > 0; i--) {
            county.append("slab ").append(random.nextInt(5) / 4).append(" ").append(random.nextInt(31)).append(";");
        }
        county.append("soul 1 9;soul 0 40;soul 0 60;kin 1 0;");
        StringBuilder lines = new StringBuilder();
        for (int i = 3 + random.nextInt(4); i > 0; i--) {
            lines.append(random.nextInt(7) / 5).append(" ").append(random.nextInt(6) / 5).append(" ");
            lines.append(1 + random.nextInt(20)).append(";");
        }
        List<String> faults = new ArrayList<>();
        faults.add(tell("county", county.toString()));
        faults.add(tell("book", lines.toString()));
        faults.add(both("serves", 0));
        faults.add(both("serves", 1));
        for (int line = 0; line < 6; line++) {
            faults.add(both("served", line));
        }
        for (int kind = 0; kind < 2; kind++) {
            faults.add(both("call", kind));
        }
        for (int soul = 0; soul < 3; soul++) {
            faults.add(both("run", 0, soul));
        }
        return faults.stream().filter(f -> f != null).findFirst().orElse(null);
    }

    private String tellSome() throws ReflectiveOperationException {
        int dice = random.nextInt(40);
        if (dice == 0) {
            return tell("county", county());
        }
        if (dice < 6) {
            return tell("law", law());
        }
        return dice < 30 ? tell("work", work()) : tell("book", book());
    }

    private String tell(String method, String text) throws ReflectiveOperationException {
        String told = random.nextInt(10) == 0 ? mutated(text) : text;
        int most = method.equals("county") ? 600 : method.equals("book") ? 60 : 150;
        if (told.length() > most && random.nextInt(5) > 0) {
            told = told.substring(0, most);
        }
        this.told.add("-- " + told);
        for (int i = 0; i < told.length(); i += 20) {
            int[] numbers = new int[5];
            for (int k = 0; k < 20; k++) {
                int sign = i + k < told.length() ? told.charAt(i + k) : random.nextInt(256);
                numbers[k / 4] = numbers[k / 4] << 8 | sign;
            }
            String fault = both("feed", numbers[0], numbers[1], numbers[2], numbers[3], numbers[4]);
            if (fault != null) {
                return fault;
            }
        }
        int n = told.length() + (random.nextInt(30) == 0 ? random.nextInt(5) - 2 : 0);
        String fault = both(method, n);
        slabs = plain.told(0);
        souls = plain.told(1);
        bank.told(0);
        return fault != null ? fault : both("fault");
    }

    private String mutated(String text) {
        StringBuilder out = new StringBuilder(text);
        int place = random.nextInt(text.length() + 1);
        char sign = ODD.charAt(random.nextInt(ODD.length()));
        int way = random.nextInt(4);
        if (way == 0 || text.isEmpty()) {
            out.insert(place, sign);
        } else if (way == 1) {
            out.setCharAt(Math.min(place, text.length() - 1), sign);
        } else if (way == 2) {
            out.deleteCharAt(Math.min(place, text.length() - 1));
        } else {
            out.setLength(place);
        }
        return out.toString();
    }

    private String gap() {
        int dice = random.nextInt(12);
        return dice < 10 ? " " : dice == 10 ? "  " : "";
    }

    private String blank() {
        return random.nextInt(10) == 0 ? " " : "";
    }

    private String number(int least, int most) {
        int value = random.nextInt(250) == 0 ? most + 1 : least + random.nextInt(Math.max(1, most - least + 1));
        String zeros = random.nextInt(30) == 0 ? "000" : "";
        return " " + zeros + value;
    }

    private String county() {
        StringBuilder out = new StringBuilder();
        boolean bare = random.nextInt(15) == 0;
        int slabsToTell = bare ? random.nextInt(10) : 1 + random.nextInt(8);
        int soulsToTell = bare ? random.nextInt(8) : 1 + random.nextInt(6);
        int kinds = 1 + random.nextInt(3);
        for (int i = 0; i < slabsToTell; i++) {
            out.append(blank()).append("slab").append(number(0, kinds == 1 ? 5 : kinds - 2));
            out.append(number(0, random.nextInt(3) == 0 ? 60 : 25)).append(blank()).append(";");
        }
        for (int i = 0; i < soulsToTell; i++) {
            out.append(blank()).append("soul").append(number(0, random.nextInt(2) == 0 ? 2 : 9));
            out.append(number(0, random.nextInt(2) == 0 ? 99 : 40)).append(blank()).append(";");
        }
        int ties = random.nextInt(40) == 0 ? 61 : random.nextInt(7);
        for (int i = 0; i < ties && soulsToTell > 0 && slabsToTell > 0; i++) {
            out.append(blank()).append("kin").append(number(0, soulsToTell - 1)).append(number(0, slabsToTell - 1));
            out.append(blank()).append(";");
        }
        return out + blank();
    }

    private String law() {
        String text = sum(0);
        return text.length() > 150 ? "amount+nights*standing/2" : text + blank();
    }

    private String sum(int depth) {
        StringBuilder out = new StringBuilder(product(depth));
        for (int i = random.nextInt(3); i > 0; i--) {
            out.append(blank()).append(random.nextBoolean() ? "+" : "-").append(product(depth));
        }
        return out.toString();
    }

    private String product(int depth) {
        StringBuilder out = new StringBuilder(unit(depth));
        for (int i = random.nextInt(5) / 3; i > 0; i--) {
            out.append(blank()).append("*/%".charAt(random.nextInt(3))).append(unit(depth));
        }
        return out.toString();
    }

    private String unit(int depth) {
        String[] names = {"amount", "nights", "kind", "kin", "standing", "left", "night", "soul"};
        int dice = random.nextInt(8);
        if (dice >= 6 && depth < 7) {
            if (dice == 6) {
                return blank() + "(" + sum(depth + 1) + blank() + ")";
            }
            return (random.nextBoolean() ? "least" : "most") + blank() + "[" + sum(depth + 1) + ","
                    + sum(depth + 1) + blank() + "]";
        }
        return dice < 2 ? number(0, random.nextInt(4) == 0 ? 999 : 9) : blank() + names[random.nextInt(8)];
    }

    private String work() {
        StringBuilder out = new StringBuilder();
        if (random.nextInt(12) == 0) {
            return "again 30[again 30[night;];];";
        }
        for (int i = random.nextInt(9); i > 0; i--) {
            out.append(blank()).append(step(0)).append(blank()).append(";");
        }
        return out + blank();
    }

    private String step(int depth) {
        int dice = random.nextInt(30);
        if (dice < 3) {
            StringBuilder out = new StringBuilder("again").append(number(0, random.nextInt(4) == 0 ? 30 : 5));
            out.append(blank()).append("[");
            for (int i = random.nextInt(3); i > 0 && depth < 7; i--) {
                out.append(step(depth + 1)).append(";");
            }
            return out.append(blank()).append("]").toString();
        }
        String soul = number(0, souls - 1);
        String slab = number(0, slabs - 1);
        if (dice < 13) {
            return "lend" + soul + slab + number(1, random.nextInt(3) == 0 ? 60 : 12) + number(1, 9);
        }
        if (dice < 19) {
            return "pay" + number(0, random.nextInt(3) == 0 ? 9 : 2);
        }
        if (dice < 22) {
            return "earn" + soul + number(1, 60);
        }
        return dice < 24 ? "seal" + slab : dice < 26 ? "open" + slab : "night";
    }

    private String book() {
        StringBuilder out = new StringBuilder();
        int kinds = 1 + random.nextInt(2);
        for (int i = random.nextInt(7) + random.nextInt(40) / 39; i > 0; i--) {
            out.append(number(0, souls - 1)).append(number(0, kinds - 1));
            out.append(number(1, random.nextInt(2) == 0 ? 12 : 40)).append(blank()).append(";");
        }
        return out.toString();
    }

    private int any(int least, int most) {
        int dice = random.nextInt(60);
        if (dice == 0) {
            return random.nextInt();
        }
        if (dice < 4) {
            return dice < 2 ? least - 1 : most + 1;
        }
        return dice < 8 ? (dice < 6 ? least : most) : least + random.nextInt(Math.max(1, most - least + 1));
    }

    private int anySoul() {
        return any(0, souls - 1);
    }

    private int anySlab() {
        return any(0, slabs - 1);
    }

    private String ask() throws ReflectiveOperationException {
        switch (random.nextInt(36)) {
            case 0: return both("undo");
            case 1: return both("told", any(0, 11));
            case 2: return both("slab", anySlab(), any(0, 5));
            case 3: return both("soul", anySoul(), any(0, 5));
            case 4: return both("loan", any(0, Math.max(0, plain.told(2) - 1)), any(0, 6));
            case 5: return both("would", any(1, 60), any(0, 999), any(0, 5), any(0, 1), any(0, 9), any(0, 99),
                    any(0, 999), any(0, 5));
            case 6: return both("lends", anySoul(), anySlab(), any(1, 30));
            case 7: return both("ahead", any(0, 99), any(0, 2));
            case 8: return both("cheapest", anySoul(), any(0, random.nextInt(2) * 5), any(1, 60), any(1, 40));
            case 9: return both("clears", anySoul());
            case 10: return both("comes", any(0, random.nextBoolean() ? 999 : 30));
            case 11: return both("serves", any(0, 1));
            case 12: return both("served", any(0, Math.max(0, plain.told(9) - 1)));
            case 13: return random.nextInt(4) == 0 ? both("call", any(0, 5)) : null;
            case 14: return both("run", anySlab(), anySoul());
            case 15: return both("all", any(0, 12), any(0, 13), any(0, 16), any(0, 1));
            case 16: return both("saint", any(0, 99), random.nextInt(3) == 0 ? 0 : any(0, 99), any(0, 2));
            case 17: return both("candles", anySoul(), any(0, (1 << souls) - 1), any(0, 999));
            case 18: return both("richest", any(0, 1));
            case 19: return both("next", any(0, 1));
            case 20: return both("shut");
            case 21: return both("kind", any(0, 5), any(0, 1));
            case 22: return both("worth", anySoul());
            case 23: return both("broke", anySoul());
            case 24: return both("late", anySoul(), any(0, 1));
            case 25: return both("trust", anySlab(), any(1, 60));
            case 26: return both("deepest", any(0, 1));
            case 27: return both("poorest", any(0, 1));
            case 28: return both("winter", random.nextInt(), any(0, 16), any(1, 96), any(0, 3));
            case 29: return both("span", random.nextInt(), any(1, 20), any(0, 16), any(1, 96), any(0, 2), anySoul());
            case 30: return random.nextInt(3) == 0 ? both("image") : null;
            case 31: return random.nextInt(4) == 0 ? both("restore") : null;
            case 32: return both("status", any(0, 1));
            case 33: return both("count", any(0, 2));
            case 34: return random.nextInt(8) == 0
                    ? both(TEXTS[random.nextInt(4)], random.nextInt(3) - 1) : null;
            default: return both("told", any(0, 11));
        }
    }

    private String both(String method, int... numbers) throws ReflectiveOperationException {
        calls++;
        Object due = answer(plain, method, numbers);
        Object got = answer(bank, method, numbers);
        told.add(method + Arrays.toString(numbers) + " = " + due);
        return due.equals(got) ? null : method + Arrays.toString(numbers) + " answered " + got + ", due is " + due;
    }

    private static Object answer(Object object, String method, int[] numbers) throws ReflectiveOperationException {
        for (Method one : object.getClass().getDeclaredMethods()) {
            if (one.getName().equals(method) && one.getParameterCount() == numbers.length
                    && Arrays.stream(one.getParameterTypes()).allMatch(t -> t == int.class)) {
                Object[] boxed = Arrays.stream(numbers).boxed().toArray();
                try {
                    return one.invoke(object, boxed);
                } catch (InvocationTargetException thrown) {
                    return thrown.getCause().getClass().getName();
                }
            }
        }
        throw new IllegalStateException(method);
    }
}
