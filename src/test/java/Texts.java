/** Descriptions for the tests, and what load() must say of them. */
final class Texts {
    private Texts() {
    }

    /** The text must be read, and each of its lend lines must grant a loan. */
    static void good(String text) {
        SilenceBureau x = new SilenceBureau();
        Check.same("'" + text + "' is read", "answer " + loansIn(text), Check.nameOfThrown(() -> Check.load(x, text)));
        Check.same("'" + text + "' has no error", 0, x.errorKind());
        Check.same("'" + text + "' has no offset", SilenceBureau.NONE, x.errorOffset());
    }

    private static int loansIn(String text) {
        return text.split(";lend ", -1).length - 1;
    }

    /** The text is given with a bar at the place of the error. */
    static void bad(int kind, String marked) {
        int offset = marked.indexOf('|');
        String text = marked.substring(0, offset) + marked.substring(offset + 1);
        SilenceBureau x = new SilenceBureau();
        Check.throwing("'" + marked + "' is refused", Check.ARGUMENT, () -> Check.load(x, text));
        Check.same("kind for '" + marked + "'", kind, x.errorKind());
        Check.same("offset for '" + marked + "'", offset, x.errorOffset());
        Check.same("'" + marked + "' alters nothing", 5, x.clock());
    }

    /** Streets a, b, c and so on, with the noise given (a day noise and a night noise). */
    static String streets(int count, String noise) {
        StringBuilder text = new StringBuilder("bureau 1 0");
        for (int i = 0; i < count; i++) {
            text.append(";street ").append((char) ('a' + i)).append(' ').append(noise);
        }
        return text.toString();
    }

    /** One street s without noise and borrowers a, b, c and so on. */
    static String borrowers(int count) {
        StringBuilder text = new StringBuilder("bureau 1 0;street s 0 0");
        for (int i = 0; i < count; i++) {
            text.append(";borrower ").append((char) ('a' + i)).append(" s 1 1");
        }
        return text.toString();
    }

    /** One street s without noise and permits for its hour 5. */
    static String permits(int count) {
        StringBuilder text = new StringBuilder("bureau 1 0;street s 0 0");
        for (int i = 0; i < count; i++) {
            text.append(";permit s 5 1");
        }
        return text.toString();
    }

    /** One street s without noise, one borrower a with a credit of 99, and its loans of the hours 0, 1, 2 and so on. */
    static String loans(int count) {
        StringBuilder text = new StringBuilder("bureau 24 0;street s 0 0;borrower a s 1 99");
        for (int i = 0; i < count; i++) {
            text.append(";lend a ").append(i).append(" 1");
        }
        return text.toString();
    }

    /** The text's bureau at the last clock value. */
    static SilenceBureau atLastClock(String text) {
        SilenceBureau x = Check.loaded(text);
        for (int i = 0; i < 101; i++) {
            x.advance(99);
        }
        Check.same("the last clock value", 9999, x.clock());
        return x;
    }
}
