import java.nio.charset.StandardCharsets;

/** What the tests share: they print each answer that is not due, and end with exit code 1 if there was one. */
final class Check {
    interface Call {
        Object make();
    }

    /** Makes a bureau, the same one each time: so that each question can be put to a fresh one. */
    interface Maker {
        SilenceBureau make();
    }

    /** A call that is made on one bureau and then on another. */
    interface CallOn {
        Object make(SilenceBureau x);
    }

    static final Class<?> INDEX = IndexOutOfBoundsException.class;
    static final Class<?> ARGUMENT = IllegalArgumentException.class;
    static final Class<?> STATE = IllegalStateException.class;

    private static final int[] FORECASTS = {1, 2, 3, 4, 5, 6, 9, 12, 18, 24, 36, 48};

    private static int wrong = 0;
    private static int made = 0;

    private Check() {
    }

    static void same(String what, Object due, Object got) {
        made++;
        if (!due.equals(got)) {
            wrong++;
            System.out.println(what + ": due is " + due + ", the answer is " + got);
        }
    }

    /** Asks for the very class and for a throw in the code: the machine's own exceptions are of other classes. */
    static void throwing(String what, Class<?> due, Call call) {
        same(what, due.getName(), nameOfThrown(call));
    }

    static String nameOfThrown(Call call) {
        try {
            return "answer " + call.make();
        } catch (RuntimeException e) {
            StackTraceElement[] trace = e.getStackTrace();
            boolean own = trace.length > 0 && trace[0].getClassName().startsWith("SilenceBureau");
            return own ? e.getClass().getName() : e.getClass().getName() + " of the machine";
        }
    }

    /** Appends the text, filled up with bytes that would be an error if they were parsed. */
    static void append(SilenceBureau x, String text) {
        append(x, text.getBytes(StandardCharsets.ISO_8859_1));
    }

    static void append(SilenceBureau x, byte[] text) {
        for (int from = 0; from < text.length; from += 20) {
            int[] words = new int[5];
            for (int i = 0; i < 20; i++) {
                int b = from + i < text.length ? text[from + i] & 255 : '?';
                words[i / 4] = words[i / 4] << 8 | b;
            }
            x.append(words[0], words[1], words[2], words[3], words[4]);
        }
    }

    static int load(SilenceBureau x, String text) {
        append(x, text);
        return x.load(text.length());
    }

    static SilenceBureau loaded(String text) {
        SilenceBureau x = new SilenceBureau();
        load(x, text);
        return x;
    }

    static String output(SilenceBureau x, int length) {
        StringBuilder text = new StringBuilder();
        for (int i = 0; i < length; i++) {
            text.append((char) x.outputByte(i));
        }
        return text.toString();
    }

    /**
     * What can be asked about the state that undo() restores, without changing it. It takes some two hundred calls:
     * the document promises nothing after an object's 512th, so an object is asked twice at most.
     */
    static String picture(SilenceBureau x) {
        return summary(x) + permits(x);
    }

    /** The picture without the hours of the permits. */
    static String summary(SilenceBureau x) {
        StringBuilder p = new StringBuilder();
        int clock = x.clock();
        p.append(clock).append(' ').append(x.gracePeriod()).append(' ').append(x.lateFee());
        int streets = x.streetCount();
        for (int s = 0; s < streets; s++) {
            p.append("\nstreet ").append(x.noiseTotal(s)).append(' ').append(x.quietHours(s));
            // Eight hours at a stretch are night, so that these are hours of the day and of the night.
            for (int hour = clock; hour < clock + 24; hour += 6) {
                p.append(' ').append(x.noiseAt(s, hour));
            }
        }
        int borrowers = x.borrowerCount();
        for (int b = 0; b < borrowers; b++) {
            p.append("\nborrower ").append(x.streetOf(b)).append(' ').append(x.illnessOf(b)).append(' ');
            p.append(x.creditOf(b)).append(" later");
            for (int hours : FORECASTS) {
                p.append(' ').append(x.illnessAfter(b, hours));
            }
        }
        int loans = x.loanCount();
        for (int i = 0; i < loans; i++) {
            p.append("\nloan ").append(x.borrowerOf(i)).append(' ').append(x.startOf(i)).append(' ');
            p.append(x.lengthOf(i)).append(' ').append(x.priceOf(i)).append(' ').append(x.statusOf(i));
        }
        return p.toString();
    }

    static String permits(SilenceBureau x) {
        StringBuilder p = new StringBuilder();
        int clock = x.clock();
        p.append("\npermits ").append(x.permitCount());
        int streets = x.streetCount();
        for (int s = 0; s < streets; s++) {
            p.append("\nin street ").append(s).append(':');
            for (int hour = clock; hour < clock + 48; hour++) {
                p.append(' ').append(x.permitFor(s, hour));
            }
        }
        return p.toString();
    }

    static void end(String test) {
        System.out.println(test + ": " + made + " answers, " + wrong + " not as due");
        if (wrong != 0) {
            System.exit(1);
        }
    }
}
