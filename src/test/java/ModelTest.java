import java.lang.reflect.InvocationTargetException;
import java.lang.reflect.Method;
import java.util.ArrayList;
import java.util.List;
import java.util.Random;

/** Runs of at most 512 calls, drawn from fixed seeds, each made on the class and on the model: the answers must agree. */
final class ModelTest {
    private static final int CALLS = 512;
    // A sign for each parameter: S a street, B a borrower, L a loan, P a permit, H an hour, T a slot, 6 or C a length
    // of a loan or a permit, N hours of a forecast, A an amount, O another number.
    private static final String[] CALLED = {"errorKind", "errorOffset", "clock", "isNight", "gracePeriod", "lateFee",
        "streetCount", "borrowerCount", "loanCount", "permitCount", "loansWith O", "undoCount", "noiseNow S",
        "noiseAt SH", "noiseTotal S", "quietHours S", "loudestStreet", "streetOf B", "illnessOf B", "creditOf B",
        "overdueLoans B", "mostIll", "borrowerOf L", "startOf L", "lengthOf L", "priceOf L", "statusOf L",
        "holderOf H", "permitFor SH", "freeHours", "quote B6", "refusal BH6", "refusalCause BH6", "displacedBy BH6",
        "earliestStart B6", "earliestPeacefulStart B6", "illnessAfter BN", "meanNoise S", "lentShare",
        "ledgerDifference", "writeSchedule", "writeBorrower B", "outputByte O", "save T"};
    private static final String[] CHANGES = {"lend BH6", "lend BH6", "lend BH6", "lend BH6", "cancel L", "whistle L",
        "whistle L", "whistle L", "grantPermit SHC", "revokePermit P", "pay BA", "advance 6", "advance 6", "advance O",
        "advance A", "restore T", "undo", "undo"};
    private static final int[] STRANGE = {-1, 0, 48, 100, 1000, 9999, Integer.MIN_VALUE, Integer.MAX_VALUE};

    private final Random random;
    private final List<String> changes = new ArrayList<>();
    private final SilenceBureau bureau = new SilenceBureau();
    private final Model model = new Model();
    private int calls = 0;

    private ModelTest(int seed) {
        random = new Random(seed);
        // A run leaves out some of the changes, so that the others lead it far: to full lists, to many late loans.
        for (String change : CHANGES) {
            if (changes.isEmpty() || random.nextInt(3) != 0) {
                changes.add(change);
            }
        }
    }

    public static void main(String[] args) throws Exception {
        for (int seed = 0; seed < 800; seed++) {
            new ModelTest(seed).run();
        }
        Check.end("ModelTest");
    }

    private void run() throws Exception {
        if (random.nextInt(8) != 0) {
            load();
        }
        while (calls < CALLS - 40) {
            int draw = random.nextInt(200);
            if (draw == 0) {
                load();
            } else {
                call(draw < 110 ? changes.get(random.nextInt(changes.size())) : CALLED[random.nextInt(CALLED.length)]);
            }
        }
    }

    private void call(String form) throws Exception {
        String[] parts = form.split(" ");
        String meanings = parts.length == 1 ? "" : parts[1];
        Object[] args = new Object[meanings.length()];
        for (int i = 0; i < args.length; i++) {
            args[i] = random.nextInt(60) == 0 ? STRANGE[random.nextInt(STRANGE.length)]
                    : draw(meanings.charAt(i)) + (random.nextInt(40) == 0 ? 1 : 0);
        }
        both(parts[0], args);
    }

    private int draw(char meaning) {
        switch (meaning) {
            case 'S': return random.nextInt(Math.max(1, model.streetCount()));
            case 'B': return random.nextInt(Math.max(1, model.borrowerCount()));
            case 'L': return random.nextInt(Math.max(1, model.loanCount()));
            case 'P': return random.nextInt(Math.max(1, model.permitCount()));
            case 'H': return model.clock() + random.nextInt(random.nextBoolean() ? 8 : 48);
            case 'T': return random.nextInt(2);
            case '6': return 1 + random.nextInt(random.nextBoolean() ? 2 : 6);
            case 'C': return 1 + random.nextInt(12);
            case 'N': return random.nextInt(201);
            case 'A': return 1 + random.nextInt(99);
            default: return random.nextInt(26) - 1;
        }
    }

    private void both(String name, Object... args) throws Exception {
        calls++;
        StringBuilder call = new StringBuilder(name);
        Class<?>[] types = new Class<?>[args.length];
        for (int i = 0; i < args.length; i++) {
            types[i] = int.class;
            call.append(' ').append(args[i]);
        }
        Object due = answer(Model.class.getMethod(name, types), model, args);
        Check.same(call.toString(), due, answer(SilenceBureau.class.getMethod(name, types), bureau, args));
    }

    private static Object answer(Method method, Object object, Object[] args) throws Exception {
        method.setAccessible(true);
        try {
            return method.invoke(object, args);
        } catch (InvocationTargetException e) {
            return e.getCause().getClass().getName();
        }
    }

    private void load() throws Exception {
        String text = new TextMaker(random).make();
        for (int at = 0; at < text.length(); at += 20) {
            int[] words = words(text, at);
            both("append", words[0], words[1], words[2], words[3], words[4]);
        }
        both("load", text.length());
        both("errorKind");
        both("errorOffset");
    }

    private static int[] words(String text, int from) {
        int[] words = new int[5];
        for (int i = 0; i < 20; i++) {
            words[i / 4] = words[i / 4] << 8 | (from + i < text.length() ? text.charAt(from + i) : ' ');
        }
        return words;
    }

    /** Makes texts of at most 700 bytes, most of them without an error or with one far behind. */
    private static final class TextMaker {
        private static final String[] NAMES = {"a", "b", "cc", "dd", "elm", "oak", "street", "zzzzzz", "h", "hours",
            "jj", "k", "lend", "m"};
        private final Random random;
        private final List<String> streets = new ArrayList<>();
        private final List<String> borrowers = new ArrayList<>();
        private int clock = 0;
        private int loans = 0;

        TextMaker(Random random) {
            this.random = random;
        }

        String make() {
            StringBuilder text = new StringBuilder("bureau " + number(1, 5) + " " + number(0, 20));
            int lines = random.nextInt(45);
            for (int i = 0; i < lines; i++) {
                String line = (random.nextInt(30) == 0 ? " ;\n" : ";") + line(i);
                if (text.length() + line.length() <= 690 && (random.nextInt(50) == 0 || readable(text + line))) {
                    text.append(line);
                }
            }
            for (int damage = random.nextInt(6) - 3; damage > 0; damage--) {
                int at = random.nextInt(text.length());
                switch (random.nextInt(4)) {
                    case 0: text.setCharAt(at, (char) random.nextInt(256)); break;
                    case 1: text.deleteCharAt(at); break;
                    case 2: text.insert(at, " \n;a0z9".charAt(random.nextInt(7))); break;
                    default: text.setLength(at + 1);
                }
            }
            return text.toString();
        }

        private static boolean readable(String text) {
            try {
                Model model = new Model();
                for (int at = 0; at < text.length(); at += 20) {
                    int[] words = words(text, at);
                    model.append(words[0], words[1], words[2], words[3], words[4]);
                }
                model.load(text.length());
                return true;
            } catch (IllegalArgumentException e) {
                return false;
            }
        }

        private int number(int least, int most) {
            int strange = random.nextInt(300);
            return strange == 0 ? most + 1 : strange == 1 ? 10000 : least + random.nextInt(most - least + 1);
        }

        private String line(int i) {
            boolean early = i < 3 + random.nextInt(12);
            switch (early ? random.nextInt(2) : random.nextInt(20)) {
                case 0: return "street " + add(streets, 8) + " " + noise() + " " + noise();
                case 1: return streets.isEmpty() ? line(0)
                        : "borrower " + add(borrowers, 12) + " " + one(streets) + " " + number(0, 9) + " " + number(0, 999);
                case 2: case 3: return streets.isEmpty() ? line(0)
                        : "permit " + one(streets) + " " + start() + " " + number(1, 3);
                case 4: case 5: return hours();
                case 6: case 7: return loans == 0 ? hours() : "whistle " + random.nextInt(loans);
                default: return borrowers.isEmpty() ? line(0) : lend();
            }
        }

        private String lend() {
            loans++;
            return "lend " + one(borrowers) + " " + start() + " " + number(1, 2);
        }

        private String hours() {
            int hours = number(1, random.nextInt(5) == 0 ? 99 : 4);
            clock += hours;
            return "hours " + hours;
        }

        private int start() {
            return clock + random.nextInt(random.nextInt(40) == 0 ? 50 : 46);
        }

        private int noise() {
            return random.nextInt(4) == 0 ? 0 : random.nextInt(3) == 0 ? number(75, 85) : number(0, 99);
        }

        private String add(List<String> names, int most) {
            String name = NAMES[random.nextInt(NAMES.length)];
            while (names.contains(name) && names.size() < NAMES.length - 1 && random.nextInt(40) != 0) {
                name = NAMES[random.nextInt(NAMES.length)];
            }
            if (names.size() < most) {
                names.add(name);
            }
            return name;
        }

        private String one(List<String> names) {
            return random.nextInt(150) == 0 ? "nobody" : names.get(random.nextInt(names.size()));
        }
    }
}
